import java.util.NoSuchElementException;

/** A garden in which eggs are hidden and children look for them, told as a text. */
public final class EggGarden {
    public static final int NONE = -1;

    private static final int NOT_SO_MANY = -2;
    private static final int TOO_FEW_CELLS = -3;
    private static final int NO_SUCH_EGG = -4;

    /** What a law answers when it has no value: the least long. */
    private static final long ERROR = 0x8000000000000000L;
    private static final long VALUE_LIMIT = 1000000000000L;

    private static final int TAPE_LENGTH = 700;
    private static final int MAX_CELLS = 48;
    private static final int MAX_CHILDREN = 4;
    private static final int MAX_THINGS = 16;
    private static final int MAX_TEXT_EGGS = 12;
    private static final int MAX_EGGS = 16;
    private static final int MAX_KNOTS = 64;
    private static final int MAX_OPEN = 8;
    private static final int MAX_SEEN = 24;
    private static final int MAX_UNDO = 20;
    private static final int MAX_STOP = 40;
    private static final int MAX_BUSHES = 4;
    private static final int LAST_SECOND = 9999;
    private static final int LONGEST = 200;
    private static final int LONGEST_PLACE = 40;
    private static final int LATEST = 30;
    private static final int MORNINGS = 10;
    /** A SECOND that never comes. */
    private static final int NEVER = 1000000;

    private static final int HIDDEN = -1;
    private static final int DOGS = -2;
    private static final int MELTED = -3;

    private static final int GRASS = 0;
    private static final int TREE = 3;
    private static final int RULES = 3;
    private static final int OWN = 1;
    private static final int BEHIND = 2;
    private static final int BIG = 8;
    private static final int COLORS = 4;
    private static final int HARDEST = 9;

    private static final int SEE = 0;
    private static final int HIDE = 1;
    private static final int JOY = 2;
    private static final int KEEP = 3;
    private static final int LAWS = 4;
    private static final int NAMES = 7;

    private static final int NO_TOKEN = 1;
    private static final int TOO_MUCH = 2;
    private static final int TOLD_ALREADY = 3;
    private static final int TOO_LATE = 4;

    // What a TOKEN is.
    private static final int END = 0;
    private static final int WORD = 1;
    private static final int OTHER_WORD = 2;
    private static final int DIGITS = 3;
    private static final int SIGN = 4;
    private static final int BAD = 5;

    // Signs, and what else a KNOT may be.
    private static final int SEMICOLON = 0;
    private static final int OPEN = 1;
    private static final int CLOSE = 2;
    private static final int PLUS = 3;
    private static final int MINUS = 4;
    private static final int TIMES = 5;
    private static final int OVER = 6;
    private static final int LESS = 7;
    private static final int AT_MOST = 8;
    private static final int EQUAL = 9;
    private static final int UNEQUAL = 10;
    private static final int AT_LEAST = 11;
    private static final int MORE = 12;
    private static final int OR = 13;
    private static final int AND = 14;
    private static final int NOT = 15;
    private static final int NUMBER = 16;
    private static final int NAME = 17;

    /** How fast each of the signs and words above binds, by its number; 0: it is no operator. */
    private static final int[] BINDING = {0, 0, 0, 5, 5, 6, 6, 4, 4, 4, 4, 4, 4, 1, 2, 3, 0, 0};

    /** The words of the language, each filled up to six signs. */
    private static final String WORDS =
            "gardenbush  pot   tree  egg   child rule  line  dog   sun   seed  law   red   blue  green gold  free  own   behindsee   hide  joy   keep  or    and   not   age   hard  kind  color mine  row   many  ";
    private static final int WORD_LENGTH = 6;
    private static final int WORD_COUNT = 33;
    private static final int GARDEN_WORD = 0;
    private static final int TREE_WORD = 3;
    private static final int EGG_WORD = 4;
    private static final int CHILD_WORD = 5;
    private static final int RULE_WORD = 6;
    private static final int LINE_WORD = 7;
    private static final int DOG_WORD = 8;
    private static final int SUN_WORD = 9;
    private static final int SEED_WORD = 10;
    private static final int LAW_WORD = 11;
    private static final int RED_WORD = 12;
    private static final int FREE_WORD = 16;
    private static final int SEE_WORD = 19;
    private static final int OR_WORD = 23;
    private static final int AND_WORD = 24;
    private static final int NOT_WORD = 25;
    private static final int AGE_WORD = 26;

    private final int[] tape = new int[TAPE_LENGTH];
    private int tapeLength;
    private int latestFault;
    private int latestPlace = NONE;

    private final Reader reader = new Reader(tape);
    private final Plan plan = new Plan();
    /** As the TEXT tells it. */
    private final Morning first = new Morning(plan);
    private final Morning now = new Morning(plan);
    private final Morning image = new Morning(plan);
    private boolean imageKept;
    private final Seen seen = new Seen();
    private final Undoing undoing = new Undoing();
    private final Trials trials = new Trials(now, first, seen);

    public EggGarden() {
        reader.read(0);
        adoptText();
    }

    public int feed(int a, int b, int c, int d, int e) {
        if (tapeLength > TAPE_LENGTH - 20) {
            return NONE;
        }
        layBytes(a);
        layBytes(b);
        layBytes(c);
        layBytes(d);
        layBytes(e);
        return tapeLength;
    }

    private void layBytes(int four) {
        for (int shift = 24; shift >= 0 && tapeLength < TAPE_LENGTH; shift -= 8) {
            tape[tapeLength] = (four >>> shift) & 255;
            tapeLength++;
        }
    }

    public int text(int n) {
        if (n < 0 || n > tapeLength) {
            return NOT_SO_MANY;
        }
        int lines = reader.read(n);
        tapeLength = 0;
        latestFault = reader.faultNumber;
        latestPlace = reader.faultPlace;
        if (latestFault != 0) {
            return NONE;
        }
        adoptText();
        return lines;
    }

    private void adoptText() {
        plan.copyFrom(reader.plan);
        first.copyFrom(reader.morning);
        plan.layWeights(first);
        now.copyFrom(first);
        imageKept = false;
        seen.forgetAll();
        undoing.forgetAll();
    }

    public int fault(int what) {
        if (what == 0) {
            return latestFault;
        }
        return what == 1 ? latestPlace : NONE;
    }

    public int named(int letters) {
        return now.childNamed(letters);
    }

    public int cell(int cell, int what) throws IndexOutOfBoundsException, NoSuchElementException {
        if (!plan.isCell(cell)) {
            throw new IndexOutOfBoundsException("no such cell");
        }
        switch (what) {
            case 0:
                return plan.kind[cell];
            case 1:
                return now.eggsHiddenAt(cell);
            case 2:
                return now.lookedAt[cell] ? 1 : 0;
            case 3:
                return now.childrenAt(cell);
            default:
                throw new NoSuchElementException("no such what");
        }
    }

    public int egg(int egg, int what) {
        if (!now.isEgg(egg)) {
            return NO_SUCH_EGG;
        }
        Egg asked = now.eggs[egg];
        switch (what) {
            case 0:
                return asked.cell;
            case 1:
                return asked.color;
            case 2:
                return asked.hard;
            case 3:
                return asked.owner;
            default:
                return NO_SUCH_EGG;
        }
    }

    public int child(int child, int what) {
        if (!now.isChild(child)) {
            return NONE;
        }
        Child asked = now.children[child];
        switch (what) {
            case 0:
                return asked.cell;
            case 1:
                return asked.has;
            case 2:
                return now.eggBits(child);
            case 3:
                return asked.looks;
            case 4:
                return now.worthOfAll(child);
            default:
                return NONE;
        }
    }

    public int odds(int child, int egg) {
        if (!now.isChild(child) || !now.isEgg(egg)) {
            return NONE;
        }
        return now.oddsFor(child, egg);
    }

    public long law(int what, int child, int other) {
        switch (what) {
            case 0:
                return now.lawOfChild(SEE, child, other);
            case 1:
                return now.lawOfChild(JOY, child, other);
            case 2:
                return plan.isCell(child) ? plan.hideLaw(child) : ERROR;
            case 3:
                return now.isEgg(child) ? now.keepLaw(child) : ERROR;
            default:
                return ERROR;
        }
    }

    public int hide(int cell, int color, int hard) {
        if (!plan.isCell(cell) || !isColor(color) || !isHard(hard) || now.eggCount >= MAX_EGGS) {
            return NONE;
        }
        int number = now.eggCount;
        now.addEgg(cell, color, hard);
        undoing.noteHidden();
        return number;
    }

    private static boolean isColor(int color) {
        return color >= 0 && color < COLORS;
    }

    private static boolean isHard(int hard) {
        return hard >= 0 && hard <= HARDEST;
    }

    private static boolean isLong(int t) {
        return t >= 1 && t <= LONGEST;
    }

    public boolean take() {
        if (now.eggCount <= first.eggCount) {
            return false;
        }
        Egg last = now.eggs[now.eggCount - 1];
        if (last.owner != HIDDEN) {
            return false;
        }
        undoing.noteTaken(last);
        now.eggCount--;
        return true;
    }

    public boolean set(int child, int cell) {
        if (!now.isChild(child) || !plan.isCell(cell)) {
            return false;
        }
        Child moved = now.children[child];
        if (moved.cell == cell) {
            return false;
        }
        undoing.noteSet(child, moved.cell);
        moved.cell = cell;
        return true;
    }

    public boolean rule(int rule) {
        if (rule < 0 || rule >= RULES || rule == now.rule) {
            return false;
        }
        undoing.noteRule(now.rule);
        now.rule = rule;
        return true;
    }

    public int go(int n) {
        if (n < 0 || n > LONGEST || now.second + n > LAST_SECOND) {
            return NONE;
        }
        now.passSeconds(n, false);
        if (n > 0) {
            undoing.forgetAll();
        }
        return now.second;
    }

    public int weight(int cell) {
        return plan.isCell(cell) ? now.weight[cell] : NONE;
    }

    public int next(int child) {
        if (!now.isChild(child)) {
            return NONE;
        }
        return now.bestCell(child, now.children[child].cell);
    }

    public int stop(int child, int cost) {
        if (!now.isChild(child) || cost < 1 || cost > 99999) {
            return NONE;
        }
        return trials.looksWorthIt(child, cost);
    }

    public int place(int n, int color, int hard, int t, int what) {
        if (n < 1 || n > 2 || !isColor(color) || !isHard(hard) || t < 1 || t > LONGEST_PLACE
                || what < 0 || what > 2 || now.childCount == 0) {
            return NONE;
        }
        if (n > plan.cells) {
            return TOO_FEW_CELLS;
        }
        if (what > n) {
            return NOT_SO_MANY;
        }
        trials.findPlaces(n, color, hard, t);
        return what == 0 ? trials.least : trials.placed[what - 1];
    }

    public int later(int t, int what) {
        if (!isLong(t) || what < 0 || what > 1 || now.childCount == 0) {
            return NONE;
        }
        int seconds = trials.findLater(t);
        return what == 0 ? seconds : trials.least;
    }

    public int tears(int rule, int t) {
        if (rule < 0 || rule >= RULES || !isLong(t)) {
            return NONE;
        }
        return trials.tearsBy(rule, t);
    }

    public int kindest(int t) {
        return isLong(t) ? trials.findKindest(t) : NONE;
    }

    public int rests() {
        return trials.findRests();
    }

    public int rest(int k) {
        if (k < 0) {
            return NONE;
        }
        return k < trials.findRests() ? trials.restPairs[k] : NOT_SO_MANY;
    }

    public long alike(int what) {
        if (what < 0 || what > 1) {
            return NONE;
        }
        return plan.alikeTerm(what == 0);
    }

    public int forgot() {
        return now.forgotten();
    }

    public int worth(int child, int egg) {
        if (!now.isChild(child) || !now.isEgg(egg)) {
            return NONE;
        }
        return now.worthOf(child, egg);
    }

    public int trade(int what) {
        if (what < 0 || what > 3) {
            return NONE;
        }
        return now.findTrade(what);
    }

    public int shared(int egg) {
        return now.isEgg(egg) ? now.dealtTo(egg) : NONE;
    }

    public int see(int seconds, int child, int many, boolean atLeast) {
        if (!isLong(seconds) || !now.isChild(child) || many < 0 || many > MAX_EGGS) {
            return NONE;
        }
        return seen.add(seconds, child, many, atLeast);
    }

    public int strike(int seen) {
        return this.seen.addStrike(seen);
    }

    public boolean known(int n) {
        if (n < -1 || n > seen.filled) {
            return false;
        }
        seen.knownBy = n;
        return true;
    }

    public int starts(int child) {
        return now.isChild(child) ? trials.startBits(child) : NONE;
    }

    public int chance(int seed, int t, int child, int n) {
        if (seed < 0 || !isLong(t) || !now.isChild(child) || n < 0 || n > MAX_EGGS) {
            return NONE;
        }
        return trials.luckyMornings(seed, t, child, n);
    }

    public int tried(int what, int i, int t) {
        if (what < 0 || what > 4 || t < 0 || t > LONGEST) {
            return NONE;
        }
        boolean rightChild = what == 2 ? now.isChild(i) : i == 0;
        return rightChild ? trials.foundOtherwise(what, i, t) : NONE;
    }

    public int undo() {
        return undoing.undoLatest(now) ? undoing.left : NONE;
    }

    public int keep() {
        image.copyFrom(now);
        imageKept = true;
        return now.second;
    }

    public int back() {
        if (!imageKept) {
            return NONE;
        }
        now.copyFrom(image);
        undoing.forgetAll();
        return now.second;
    }

    public int count(int what) {
        switch (what) {
            case 0:
                return plan.wide;
            case 1:
                return plan.high;
            case 2:
                return now.eggCount;
            case 3:
                return now.childCount;
            case 4:
                return plan.laws.knots;
            case 5:
                return now.second;
            case 6:
                return now.eggsOf(HIDDEN);
            case 7:
                return now.eggsFound();
            case 8:
                return now.eggsOf(DOGS);
            case 9:
                return now.eggsOf(MELTED);
            case 10:
                return now.cellsLookedAt();
            case 11:
                return now.rule;
            case 12:
                return seen.filled;
            case 13:
                return seen.knownCount();
            case 14:
                return undoing.left;
            case 15:
                return now.unlike();
            default:
                return NONE;
        }
    }

    private static final class Egg {
        int cell;
        int color;
        int hard;
        int owner;

        void copyFrom(Egg other) {
            cell = other.cell;
            color = other.color;
            hard = other.hard;
            owner = other.owner;
        }
    }

    private static final class Child {
        int letters;
        int cell;
        int age;
        int pace;
        int start;
        int looks;
        int has;
        /** Where its last LOOK that was SURE found nothing: another one there can't find more. */
        int emptyCell = NONE;

        void copyFrom(Child other) {
            letters = other.letters;
            cell = other.cell;
            age = other.age;
            pace = other.pace;
            start = other.start;
            looks = other.looks;
            has = other.has;
            emptyCell = other.emptyCell;
        }
    }

    /** The E of all laws, each KNOT behind those that it joins. */
    private static final class Laws {
        final int[] kind = new int[MAX_KNOTS];
        final int[] number = new int[MAX_KNOTS];
        final int[] from = new int[LAWS];
        final int[] to = new int[LAWS];
        final long[] values = new long[MAX_KNOTS];
        int knots;
        int filled;

        void forgetAll() {
            knots = 0;
            filled = 0;
            for (int i = 0; i < LAWS; i++) {
                from[i] = NONE;
                to[i] = NONE;
            }
        }

        void copyFrom(Laws other) {
            System.arraycopy(other.kind, 0, kind, 0, MAX_KNOTS);
            System.arraycopy(other.number, 0, number, 0, MAX_KNOTS);
            System.arraycopy(other.from, 0, from, 0, LAWS);
            System.arraycopy(other.to, 0, to, 0, LAWS);
            knots = other.knots;
            filled = other.filled;
        }

        void lay(int knotKind, int knotNumber) {
            if (filled < MAX_KNOTS) {
                kind[filled] = knotKind;
                number[filled] = knotNumber;
                filled++;
            }
        }

        long valueOf(int law, int[] names) {
            if (from[law] < 0) {
                return ERROR;
            }
            int top = 0;
            for (int i = from[law]; i < to[law] && i < MAX_KNOTS; i++) {
                if (kind[i] == NUMBER) {
                    values[top] = number[i];
                    top++;
                } else if (kind[i] == NAME) {
                    values[top] = names[number[i]];
                    top++;
                } else if (kind[i] == NOT) {
                    if (top < 1) {
                        return ERROR;
                    }
                    values[top - 1] = values[top - 1] == 0 ? 1 : 0;
                } else {
                    if (top < 2) {
                        return ERROR;
                    }
                    top--;
                    long value = kind[i] <= OVER
                            ? reckoned(kind[i], values[top - 1], values[top])
                            : judged(kind[i], values[top - 1], values[top]) ? 1 : 0;
                    if (value > VALUE_LIMIT || value < -VALUE_LIMIT) {
                        return ERROR;
                    }
                    values[top - 1] = value;
                }
            }
            return top == 1 ? values[0] : ERROR;
        }

        /** Both are within the limit, so that only a product may not fit a long. */
        private static long reckoned(int how, long a, long b) {
            switch (how) {
                case PLUS:
                    return a + b;
                case MINUS:
                    return a - b;
                case TIMES:
                    if (a == 0 || b == 0) {
                        return 0;
                    }
                    return (b < 0 ? -b : b) > VALUE_LIMIT / (a < 0 ? -a : a) ? ERROR : a * b;
                default:
                    return b == 0 ? ERROR : a / b;
            }
        }

        private static boolean judged(int how, long a, long b) {
            switch (how) {
                case LESS:
                    return a < b;
                case AT_MOST:
                    return a <= b;
                case EQUAL:
                    return a == b;
                case UNEQUAL:
                    return a != b;
                case AT_LEAST:
                    return a >= b;
                case MORE:
                    return a > b;
                case OR:
                    return a != 0 || b != 0;
                default:
                    return a != 0 && b != 0;
            }
        }
    }

    /** What the TEXT tells once and for all. */
    private static final class Plan {
        int wide;
        int high;
        int cells;
        int line;
        int dog;
        int seed;
        final int[] column = new int[MAX_CELLS];
        final int[] row = new int[MAX_CELLS];
        final int[] kind = new int[MAX_CELLS];
        final Laws laws = new Laws();
        /** E of hide of each CELL, in its bounds. */
        final int[] liked = new int[MAX_CELLS];
        /** Of 100 parts of a CELL's WEIGHT, how many a LOOK of each CHILD leaves. */
        final int[] left = new int[MAX_CHILDREN * MAX_CELLS];
        private final int[] names = new int[NAMES];

        void forgetAll() {
            line = 0;
            dog = 0;
            seed = 0;
            laws.forgetAll();
            for (int i = 0; i < MAX_CELLS; i++) {
                kind[i] = GRASS;
            }
            shape(6, 5);
        }

        void shape(int newWide, int newHigh) {
            wide = newWide;
            high = newHigh;
            cells = wide * high;
            int cell = 0;
            for (int y = 0; y < high; y++) {
                for (int x = 0; x < wide && cell < MAX_CELLS; x++) {
                    column[cell] = x;
                    row[cell] = y;
                    cell++;
                }
            }
        }

        void copyFrom(Plan other) {
            line = other.line;
            dog = other.dog;
            seed = other.seed;
            laws.copyFrom(other.laws);
            System.arraycopy(other.kind, 0, kind, 0, MAX_CELLS);
            shape(other.wide, other.high);
        }

        boolean isCell(int cell) {
            return cell >= 0 && cell < cells;
        }

        int steps(int from, int to) {
            return Math.abs(column[from] - column[to]) + Math.abs(row[from] - row[to]);
        }

        /** One STEP, along x first. */
        int stepTowards(int from, int to) {
            if (column[from] < column[to]) {
                return from + 1;
            }
            if (column[from] > column[to]) {
                return from - 1;
            }
            if (row[from] < row[to]) {
                return from + wide;
            }
            return row[from] > row[to] ? from - wide : from;
        }

        /** Sets the NAMES of an EGG of a COLOR and HARD at a CELL; those of a CHILD are 0. */
        void nameEgg(int cell, int color, int hard) {
            names[0] = 0;
            names[1] = hard;
            names[2] = kind[cell];
            names[3] = color;
            names[4] = 0;
            names[5] = row[cell];
            names[6] = 0;
        }

        void nameChild(int number, int age, int many) {
            names[0] = age;
            names[4] = names[3] == number % COLORS ? 1 : 0;
            names[6] = many;
        }

        void nameMany(int many) {
            names[6] = many;
        }

        long valueOf(int law) {
            return laws.valueOf(law, names);
        }

        /** ODDS of the CHILD for the EGG that the NAMES tell. */
        int oddsAsNamed() {
            long value = laws.valueOf(SEE, names);
            if (value != ERROR) {
                return within(value, 100);
            }
            boolean hindered = names[2] == TREE && names[0] < BIG;
            return Math.max(0, 100 - 10 * names[1] - (hindered ? 20 : 0));
        }

        int worthAsNamed() {
            long value = laws.valueOf(JOY, names);
            return value == ERROR ? 10 + 10 * names[4] : within(value, 999);
        }

        int keptAsNamed() {
            long value = laws.valueOf(KEEP, names);
            return value == ERROR ? 100 : within(value, 100);
        }

        long hideLaw(int cell) {
            nameEgg(cell, 0, 0);
            return laws.valueOf(HIDE, names);
        }

        private static int within(long value, int most) {
            return (int) Math.max(0, Math.min(most, value));
        }

        void layWeights(Morning morning) {
            for (int i = 0; i < cells; i++) {
                long value = hideLaw(i);
                liked[i] = value == ERROR ? 1 + kind[i] : within(value, 999);
                morning.weight[i] = liked[i] * 1000;
            }
            for (int c = 0; c < morning.childCount; c++) {
                for (int i = 0; i < cells; i++) {
                    nameEgg(i, 0, 5);
                    nameChild(c, morning.children[c].age, 0);
                    left[c * MAX_CELLS + i] = 100 - oddsAsNamed();
                }
            }
        }

        int weightBehindLook(int weight, int child, int cell) {
            return weight * left[child * MAX_CELLS + cell] / 100;
        }

        long alikeTerm(boolean above) {
            long sum = 0;
            long squares = 0;
            for (int i = 0; i < cells; i++) {
                sum += liked[i];
                squares += (long) liked[i] * liked[i];
            }
            long divisor = commonDivisor(sum * sum, squares);
            if (divisor == 0) {
                return NONE;
            }
            return above ? squares / divisor : sum * sum / divisor;
        }

        private static long commonDivisor(long a, long b) {
            long big = a;
            long small = b;
            for (int i = 0; i < 1000 && small != 0; i++) {
                long over = big % small;
                big = small;
                small = over;
            }
            return big;
        }
    }

    /** Cuts the TAPE into TOKENS. */
    private static final class Tokens {
        private final int[] tape;
        private final int[] words = new int[WORD_COUNT];
        private int length;
        private int at;
        int kind;
        int value;
        int place;

        Tokens(int[] tape) {
            this.tape = tape;
            for (int w = 0; w < WORD_COUNT; w++) {
                int letters = 0;
                for (int i = 0; i < WORD_LENGTH; i++) {
                    char letter = WORDS.charAt(w * WORD_LENGTH + i);
                    letters = letters * 32 + (letter == ' ' ? 0 : letter - 'a' + 1);
                }
                words[w] = letters;
            }
        }

        void begin(int n) {
            length = n;
            at = 0;
        }

        boolean isSign(int sign) {
            return kind == SIGN && value == sign;
        }

        /** Whether it is one of the language's words from the first on, so many. */
        boolean isWord(int firstWord, int many) {
            return kind == WORD && value >= firstWord && value < firstWord + many;
        }

        void advance() {
            while (at < length && (tape[at] == 32 || tape[at] == 10)) {
                at++;
            }
            place = at;
            if (at >= length) {
                kind = END;
            } else if (tape[at] >= 'a' && tape[at] <= 'z') {
                readWord();
            } else if (tape[at] >= '0' && tape[at] <= '9') {
                readDigits();
            } else {
                value = signOf(tape[at]);
                kind = value == NONE ? BAD : SIGN;
                at++;
                lengthenSign();
            }
        }

        private void readWord() {
            int letters = 0;
            while (at < length && tape[at] >= 'a' && tape[at] <= 'z') {
                if (at - place < WORD_LENGTH) {
                    letters |= (tape[at] - 'a' + 1) << (5 * (WORD_LENGTH - 1 - (at - place)));
                }
                at++;
            }
            value = letters;
            kind = at - place > WORD_LENGTH ? BAD : OTHER_WORD;
            for (int w = 0; w < WORD_COUNT && kind == OTHER_WORD; w++) {
                if (words[w] == letters) {
                    kind = WORD;
                    value = w;
                }
            }
        }

        private void readDigits() {
            kind = DIGITS;
            value = 0;
            while (at < length && tape[at] >= '0' && tape[at] <= '9') {
                // Kept far above all bounds, so that no length of digits runs over.
                value = value >= NEVER ? NEVER : value * 10 + tape[at] - '0';
                at++;
            }
        }

        /** A sign right behind < or > may belong to it. */
        private void lengthenSign() {
            int behind = at < length ? tape[at] : 0;
            if (value == LESS && behind == '=') {
                value = AT_MOST;
                at++;
            } else if (value == LESS && behind == '>') {
                value = UNEQUAL;
                at++;
            } else if (value == MORE && behind == '=') {
                value = AT_LEAST;
                at++;
            }
        }

        private static int signOf(int sign) {
            switch (sign) {
                case ';':
                    return SEMICOLON;
                case '(':
                    return OPEN;
                case ')':
                    return CLOSE;
                case '+':
                    return PLUS;
                case '-':
                    return MINUS;
                case '*':
                    return TIMES;
                case '/':
                    return OVER;
                case '<':
                    return LESS;
                case '=':
                    return EQUAL;
                case '>':
                    return MORE;
                default:
                    return NONE;
            }
        }
    }

    /** Reads an E: operators wait till those that bind faster are laid. */
    private static final class Formula {
        private final Tokens tokens;
        private final Laws laws;
        private final int[] waiting = new int[MAX_KNOTS + MAX_OPEN];
        private int waits;
        private int open;
        /** Whether the C at each depth of '(' has its comparison. */
        private final boolean[] compared = new boolean[MAX_OPEN + 1];
        private boolean wantsPart;
        private boolean mayDeny;

        Formula(Tokens tokens, Laws laws) {
            this.tokens = tokens;
            this.laws = laws;
        }

        /** Reads up to the ';' behind it; answers the FAULT of the TOKEN it stopped at, or 0. */
        int read(int law) {
            laws.from[law] = laws.filled;
            waits = 0;
            open = 0;
            compared[0] = false;
            wantsPart = true;
            mayDeny = true;
            for (int i = 0; i <= TAPE_LENGTH; i++) {
                tokens.advance();
                if (!wantsPart && open == 0 && tokens.isSign(SEMICOLON)) {
                    layWaiting(1);
                    laws.to[law] = laws.filled;
                    return 0;
                }
                int found = wantsPart ? readPart() : readBehindPart();
                if (found != 0) {
                    return found;
                }
            }
            return NO_TOKEN;
        }

        private int readPart() {
            if (tokens.kind == DIGITS) {
                return tokens.value > 9999 ? TOO_MUCH : layPart(NUMBER, tokens.value);
            }
            if (tokens.isWord(AGE_WORD, NAMES)) {
                return layPart(NAME, tokens.value - AGE_WORD);
            }
            if (tokens.isSign(OPEN)) {
                return openBracket();
            }
            if (tokens.isWord(NOT_WORD, 1) && mayDeny) {
                return countKnot() ? waitWith(NOT) : TOO_MUCH;
            }
            return NO_TOKEN;
        }

        private int layPart(int kind, int number) {
            if (!countKnot()) {
                return TOO_MUCH;
            }
            laws.lay(kind, number);
            wantsPart = false;
            return 0;
        }

        private int openBracket() {
            if (open >= MAX_OPEN) {
                return TOO_MUCH;
            }
            open++;
            compared[open] = false;
            mayDeny = true;
            return waitWith(OPEN);
        }

        private int readBehindPart() {
            if (tokens.isSign(CLOSE) && open > 0) {
                layWaiting(1);
                waits--;
                open--;
                return 0;
            }
            int operator = operatorRead();
            boolean comparison = operator >= LESS && operator <= MORE;
            if (operator == NONE || comparison && compared[open]) {
                return NO_TOKEN;
            }
            if (!countKnot()) {
                return TOO_MUCH;
            }
            boolean joins = operator == OR || operator == AND;
            compared[open] = comparison || !joins && compared[open];
            wantsPart = true;
            mayDeny = joins;
            layWaiting(BINDING[operator]);
            return waitWith(operator);
        }

        private int operatorRead() {
            if (tokens.isWord(OR_WORD, 1)) {
                return OR;
            }
            if (tokens.isWord(AND_WORD, 1)) {
                return AND;
            }
            return tokens.kind == SIGN && tokens.value >= PLUS ? tokens.value : NONE;
        }

        private boolean countKnot() {
            if (laws.knots >= MAX_KNOTS) {
                return false;
            }
            laws.knots++;
            return true;
        }

        private int waitWith(int operator) {
            if (waits >= waiting.length) {
                return TOO_MUCH;
            }
            waiting[waits] = operator;
            waits++;
            return 0;
        }

        /** Lays those that wait and bind as fast or faster, down to the last open '('. */
        private void layWaiting(int binding) {
            while (waits > 0 && BINDING[waiting[waits - 1]] >= binding) {
                waits--;
                laws.lay(waiting[waits], 0);
            }
        }
    }

    /** Reads a TEXT into a plan and a morning of its own, so that a FAULT changes nothing else. */
    private static final class Reader {
        private final Tokens tokens;
        private final Formula formula;
        final Plan plan = new Plan();
        final Morning morning = new Morning(plan);
        private int toldOnce;
        private int things;
        private boolean cellsTold;
        private int number;
        private int cell;
        int faultNumber;
        int faultPlace;

        Reader(int[] tape) {
            tokens = new Tokens(tape);
            formula = new Formula(tokens, plan.laws);
        }

        /** How many LINES were read up to the end or the FAULT. */
        int read(int n) {
            plan.forgetAll();
            morning.forgetAll();
            toldOnce = 0;
            things = 0;
            cellsTold = false;
            faultNumber = 0;
            faultPlace = NONE;
            tokens.begin(n);
            int lines = 0;
            for (int i = 0; i <= TAPE_LENGTH; i++) {
                tokens.advance();
                if (tokens.kind == END || !readLine()) {
                    break;
                }
                lines++;
            }
            morning.number = plan.seed;
            return lines;
        }

        private boolean fail(int found) {
            faultNumber = found;
            faultPlace = tokens.place;
            return false;
        }

        private boolean readLine() {
            if (!tokens.isWord(GARDEN_WORD, LAW_WORD + 1)) {
                return fail(NO_TOKEN);
            }
            switch (tokens.value) {
                case GARDEN_WORD:
                    return readGarden() && readEnd();
                case EGG_WORD:
                    return readEgg() && readEnd();
                case CHILD_WORD:
                    return readChild() && readEnd();
                case LAW_WORD:
                    return readLaw();
                default:
                    return tokens.value <= TREE_WORD ? readThing() && readEnd() : readSetting() && readEnd();
            }
        }

        private boolean readEnd() {
            tokens.advance();
            return tokens.isSign(SEMICOLON) || fail(NO_TOKEN);
        }

        private boolean readNumber(int least, int most) {
            tokens.advance();
            if (tokens.kind != DIGITS) {
                return fail(NO_TOKEN);
            }
            number = tokens.value;
            return number >= least && number <= most || fail(TOO_MUCH);
        }

        /** The word's number from the first one on is the number read. */
        private boolean readChoice(int firstWord, int many) {
            tokens.advance();
            if (!tokens.isWord(firstWord, many)) {
                return fail(NO_TOKEN);
            }
            number = tokens.value - firstWord;
            return true;
        }

        private boolean readCell() {
            cellsTold = true;
            if (!readNumber(0, plan.wide - 1)) {
                return false;
            }
            int x = number;
            if (!readNumber(0, plan.high - 1)) {
                return false;
            }
            cell = number * plan.wide + x;
            return true;
        }

        private boolean tellOnce(int word) {
            if ((toldOnce >> word & 1) == 1) {
                return fail(TOLD_ALREADY);
            }
            toldOnce |= 1 << word;
            return true;
        }

        private boolean readGarden() {
            if (!tellOnce(GARDEN_WORD)) {
                return false;
            }
            if (cellsTold) {
                return fail(TOO_LATE);
            }
            if (!readNumber(1, 8)) {
                return false;
            }
            int wide = number;
            if (!readNumber(1, 6)) {
                return false;
            }
            plan.shape(wide, number);
            return true;
        }

        private boolean readThing() {
            int kind = tokens.value;
            if (things >= MAX_THINGS) {
                return fail(TOO_MUCH);
            }
            if (!readCell()) {
                return false;
            }
            if (plan.kind[cell] != GRASS) {
                return fail(TOLD_ALREADY);
            }
            plan.kind[cell] = kind;
            things++;
            return true;
        }

        private boolean readEgg() {
            if (morning.eggCount >= MAX_TEXT_EGGS) {
                return fail(TOO_MUCH);
            }
            if (!readChoice(RED_WORD, COLORS)) {
                return false;
            }
            int color = number;
            if (!readCell() || !readNumber(0, HARDEST)) {
                return false;
            }
            morning.addEgg(cell, color, number);
            return true;
        }

        private boolean readChild() {
            if (morning.childCount >= MAX_CHILDREN) {
                return fail(TOO_MUCH);
            }
            tokens.advance();
            if (tokens.kind != OTHER_WORD) {
                return fail(NO_TOKEN);
            }
            if (morning.childNamed(tokens.value) != NONE) {
                return fail(TOLD_ALREADY);
            }
            Child added = morning.children[morning.childCount];
            added.letters = tokens.value;
            added.looks = 0;
            added.has = 0;
            if (!readCell() || !readNumber(1, 15)) {
                return false;
            }
            added.cell = cell;
            added.age = number;
            if (!readNumber(0, 3)) {
                return false;
            }
            added.pace = number;
            if (!readNumber(0, 99)) {
                return false;
            }
            added.start = number;
            morning.childCount++;
            return true;
        }

        private boolean readSetting() {
            int word = tokens.value;
            if (!tellOnce(word)) {
                return false;
            }
            switch (word) {
                case RULE_WORD:
                    return readChoice(FREE_WORD, RULES) && tell(word);
                case LINE_WORD:
                    return readNumber(0, 6) && tell(word);
                case DOG_WORD:
                    return readNumber(1, 99) && tell(word);
                case SUN_WORD:
                    return readNumber(0, 999) && tell(word);
                default:
                    return readNumber(0, 99999) && tell(word);
            }
        }

        private boolean tell(int word) {
            if (word == RULE_WORD) {
                morning.rule = number;
            } else if (word == LINE_WORD) {
                plan.line = number;
            } else if (word == DOG_WORD) {
                plan.dog = number;
            } else if (word == SUN_WORD) {
                morning.sun = number;
            } else if (word == SEED_WORD) {
                plan.seed = number;
            }
            return true;
        }

        private boolean readLaw() {
            if (!readChoice(SEE_WORD, LAWS)) {
                return false;
            }
            if (plan.laws.from[number] >= 0) {
                return fail(TOLD_ALREADY);
            }
            int found = formula.read(number);
            return found == 0 || fail(found);
        }
    }

    /** How all stands at a SECOND. */
    private static final class Morning {
        final Plan plan;
        final Egg[] eggs = new Egg[MAX_EGGS];
        int eggCount;
        final Child[] children = new Child[MAX_CHILDREN];
        int childCount;
        final boolean[] lookedAt = new boolean[MAX_CELLS];
        final int[] weight = new int[MAX_CELLS];
        private final int[] heap = new int[MAX_CHILDREN];
        int second;
        int number;
        int rule;
        int sun;

        Morning(Plan plan) {
            this.plan = plan;
            for (int i = 0; i < MAX_EGGS; i++) {
                eggs[i] = new Egg();
            }
            for (int i = 0; i < MAX_CHILDREN; i++) {
                children[i] = new Child();
            }
        }

        void forgetAll() {
            eggCount = 0;
            childCount = 0;
            second = 0;
            number = 0;
            rule = 0;
            sun = NEVER;
            for (int i = 0; i < MAX_CELLS; i++) {
                lookedAt[i] = false;
                weight[i] = 0;
            }
        }

        void copyFrom(Morning other) {
            eggCount = other.eggCount;
            for (int i = 0; i < eggCount; i++) {
                eggs[i].copyFrom(other.eggs[i]);
            }
            childCount = other.childCount;
            for (int i = 0; i < childCount; i++) {
                children[i].copyFrom(other.children[i]);
            }
            for (int i = 0; i < MAX_CELLS; i++) {
                lookedAt[i] = other.lookedAt[i];
                weight[i] = other.weight[i];
            }
            second = other.second;
            number = other.number;
            rule = other.rule;
            sun = other.sun;
        }

        boolean isEgg(int egg) {
            return egg >= 0 && egg < eggCount;
        }

        boolean isChild(int child) {
            return child >= 0 && child < childCount;
        }

        int childNamed(int letters) {
            for (int i = 0; i < childCount; i++) {
                if (children[i].letters == letters) {
                    return i;
                }
            }
            return NONE;
        }

        void addEgg(int cell, int color, int hard) {
            if (eggCount < MAX_EGGS) {
                Egg added = eggs[eggCount];
                added.cell = cell;
                added.color = color;
                added.hard = hard;
                added.owner = HIDDEN;
                eggCount++;
            }
        }

        /** SURE: without numbers and without the DOG. */
        void passSeconds(int t, boolean sure) {
            for (int i = 0; i < t; i++) {
                for (int c = 0; c < childCount; c++) {
                    if (children[c].start <= second) {
                        look(c, sure);
                    }
                }
                for (int c = 0; c < childCount; c++) {
                    if (children[c].start <= second) {
                        walk(c);
                    }
                }
                if (!sure) {
                    letDogTake();
                }
                if (second == sun) {
                    melt();
                }
                second++;
            }
        }

        private int draw() {
            number = (number * 1103515245 + 12345) & 0x7fffffff;
            return number >> 16;
        }

        private void look(int c, boolean sure) {
            Child looking = children[c];
            int cell = looking.cell;
            int before = looking.has;
            for (int e = 0; e < eggCount && !(sure && looking.emptyCell == cell); e++) {
                Egg there = eggs[e];
                if (there.owner == HIDDEN && there.cell == cell && mayTake(c, there.color)) {
                    int bar = sure ? 49 : draw() % 100;
                    nameBoth(c, e, looking.has);
                    if (bar < plan.oddsAsNamed()) {
                        there.owner = c;
                        looking.has++;
                    }
                }
            }
            looking.emptyCell = sure && looking.has == before ? cell : NONE;
            looking.looks++;
            lookedAt[cell] = true;
            weight[cell] = plan.weightBehindLook(weight[cell], c, cell);
        }

        boolean mayTake(int c, int color) {
            return rule != OWN || color == c % COLORS;
        }

        boolean mayGo(int c, int cell) {
            return rule != BEHIND || children[c].age < BIG || plan.row[cell] >= plan.line;
        }

        private void walk(int c) {
            Child walking = children[c];
            for (int i = 0; i < walking.pace; i++) {
                int target = nearestUnseen(c);
                if (target == NONE || target == walking.cell) {
                    return;
                }
                walking.cell = plan.stepTowards(walking.cell, target);
            }
        }

        private int nearestUnseen(int c) {
            int nearest = NONE;
            int fewest = NEVER;
            for (int i = 0; i < plan.cells; i++) {
                if (!lookedAt[i] && mayGo(c, i)) {
                    int steps = plan.steps(children[c].cell, i);
                    if (steps < fewest) {
                        fewest = steps;
                        nearest = i;
                    }
                }
            }
            return nearest;
        }

        private void letDogTake() {
            if (plan.dog <= 0 || plan.cells <= 0 || second == 0 || second % plan.dog != 0) {
                return;
            }
            int cell = draw() % plan.cells;
            for (int e = 0; e < eggCount; e++) {
                if (eggs[e].owner == HIDDEN && eggs[e].cell == cell) {
                    eggs[e].owner = DOGS;
                    return;
                }
            }
        }

        private void melt() {
            for (int e = 0; e < eggCount; e++) {
                if (eggs[e].owner == HIDDEN && plan.kind[eggs[e].cell] == GRASS) {
                    eggs[e].owner = MELTED;
                }
            }
        }

        /** NEXT of a CHILD, were it at a CELL. */
        int bestCell(int child, int from) {
            int best = NONE;
            int bestSteps = 0;
            for (int i = 0; i < plan.cells; i++) {
                if (mayGo(child, i)) {
                    int steps = plan.steps(from, i) + 1;
                    if (best == NONE || (long) weight[i] * bestSteps > (long) weight[best] * steps) {
                        best = i;
                        bestSteps = steps;
                    }
                }
            }
            return best;
        }

        private void nameBoth(int child, int egg, int many) {
            plan.nameEgg(eggs[egg].cell, eggs[egg].color, eggs[egg].hard);
            plan.nameChild(child, children[child].age, many);
        }

        int oddsFor(int child, int egg) {
            nameBoth(child, egg, children[child].has);
            return plan.oddsAsNamed();
        }

        int worthOf(int child, int egg) {
            nameBoth(child, egg, 0);
            return plan.worthAsNamed();
        }

        long lawOfChild(int law, int child, int egg) {
            if (!isChild(child) || !isEgg(egg)) {
                return ERROR;
            }
            nameBoth(child, egg, children[child].has);
            return plan.valueOf(law);
        }

        private void nameKept(int egg) {
            plan.nameEgg(eggs[egg].cell, eggs[egg].color, eggs[egg].hard);
            plan.nameMany(second);
        }

        long keepLaw(int egg) {
            nameKept(egg);
            return plan.valueOf(KEEP);
        }

        int forgotten() {
            int sum = 0;
            for (int e = 0; e < eggCount; e++) {
                if (eggs[e].owner == HIDDEN) {
                    nameKept(e);
                    sum += 100 - plan.keptAsNamed();
                }
            }
            return sum;
        }

        int eggsHiddenAt(int cell) {
            int many = 0;
            for (int e = 0; e < eggCount; e++) {
                if (eggs[e].owner == HIDDEN && eggs[e].cell == cell) {
                    many++;
                }
            }
            return many;
        }

        int childrenAt(int cell) {
            int many = 0;
            for (int c = 0; c < childCount; c++) {
                if (children[c].cell == cell) {
                    many++;
                }
            }
            return many;
        }

        int eggsOf(int owner) {
            int many = 0;
            for (int e = 0; e < eggCount; e++) {
                if (eggs[e].owner == owner) {
                    many++;
                }
            }
            return many;
        }

        int eggsFound() {
            int many = 0;
            for (int e = 0; e < eggCount; e++) {
                if (eggs[e].owner >= 0) {
                    many++;
                }
            }
            return many;
        }

        int cellsLookedAt() {
            int many = 0;
            for (int i = 0; i < plan.cells; i++) {
                if (lookedAt[i]) {
                    many++;
                }
            }
            return many;
        }

        int eggBits(int child) {
            int bits = 0;
            for (int e = 0; e < eggCount; e++) {
                if (eggs[e].owner == child) {
                    bits |= 1 << e;
                }
            }
            return bits;
        }

        int worthOfAll(int child) {
            int sum = 0;
            for (int e = 0; e < eggCount; e++) {
                if (eggs[e].owner == child) {
                    sum += worthOf(child, e);
                }
            }
            return sum;
        }

        private int most() {
            int most = 0;
            for (int c = 0; c < childCount; c++) {
                most = Math.max(most, children[c].has);
            }
            return most;
        }

        int unlike() {
            int most = most();
            int fewest = most;
            for (int c = 0; c < childCount; c++) {
                fewest = Math.min(fewest, children[c].has);
            }
            return most - fewest;
        }

        int tearsNow() {
            int most = most();
            int sum = 0;
            for (int c = 0; c < childCount; c++) {
                sum += most - children[c].has;
            }
            return sum;
        }

        /** The first TRADE's CHILDREN (what 0, 1) or EGGS (2, 3). */
        int findTrade(int what) {
            for (int i = 0; i < childCount; i++) {
                for (int j = i + 1; j < childCount; j++) {
                    int pair = firstSwap(i, j);
                    if (pair != NONE) {
                        switch (what) {
                            case 0:
                                return i;
                            case 1:
                                return j;
                            case 2:
                                return pair / MAX_EGGS;
                            default:
                                return pair % MAX_EGGS;
                        }
                    }
                }
            }
            return NOT_SO_MANY;
        }

        private int firstSwap(int i, int j) {
            for (int a = 0; a < eggCount; a++) {
                for (int b = 0; b < eggCount && eggs[a].owner == i; b++) {
                    if (eggs[b].owner == j && worthOf(i, b) > worthOf(i, a) && worthOf(j, a) > worthOf(j, b)) {
                        return a * MAX_EGGS + b;
                    }
                }
            }
            return NONE;
        }

        /** Whose an EGG is when all that were found are dealt out. */
        int dealtTo(int egg) {
            for (int c = 0; c < MAX_CHILDREN; c++) {
                heap[c] = 0;
            }
            for (int e = 0; e < eggCount; e++) {
                if (eggs[e].owner >= 0) {
                    int poorest = 0;
                    for (int c = 1; c < childCount; c++) {
                        if (heap[c] < heap[poorest]) {
                            poorest = c;
                        }
                    }
                    if (e == egg) {
                        return poorest;
                    }
                    heap[poorest] += worthOf(poorest, e);
                }
            }
            return NOT_SO_MANY;
        }
    }

    /** Mornings that are only thought of. */
    private static final class Trials {
        private static final int SUN_EVENT = -1;
        private static final int ROOM = MAX_EGGS + 2;
        private static final int SLOTS = MAX_EGGS + MAX_CELLS;

        private final Plan plan;
        private final Morning now;
        private final Morning first;
        private final Seen seen;
        private final Morning trial;

        /** The LOOKS to come, CHILD times MAX_CELLS and CELL: walking doesn't depend on EGGS. */
        private final int[] path = new int[LONGEST_PLACE * MAX_CHILDREN + 1];
        private int pathLength;
        private final int[] eggCell = new int[ROOM];
        private final boolean[] gone = new boolean[ROOM];
        private final int[] hiddenAt = new int[MAX_CELLS];
        private final int[] has = new int[MAX_CHILDREN];
        /** Of each CHILD and EGG (a new one: by its CELL), by how many the CHILD has: whether ODDS were asked. */
        private final int[] asked = new int[MAX_CHILDREN * SLOTS];
        /** Of those asked, whether ODDS are 50 and more. */
        private final int[] sure = new int[MAX_CHILDREN * SLOTS];
        private int newColor;
        private int newHard;

        /** UNLIKE of the best found. */
        int least;
        final int[] placed = new int[2];

        /** The greatest WEIGHTS, from the greatest on. */
        private final int[] greatest = new int[MAX_BUSHES];
        private int bushes;
        final int[] restPairs = new int[MAX_BUSHES * MAX_BUSHES];

        Trials(Morning now, Morning first, Seen seen) {
            this.plan = now.plan;
            this.now = now;
            this.first = first;
            this.seen = seen;
            this.trial = new Morning(now.plan);
        }

        int looksWorthIt(int child, int cost) {
            trial.copyFrom(now);
            int at = trial.children[child].cell;
            for (int looks = 0; looks < MAX_STOP; looks++) {
                int best = trial.bestCell(child, at);
                if (best == NONE || trial.weight[best] < cost * (plan.steps(at, best) + 1)) {
                    return looks;
                }
                trial.weight[best] = plan.weightBehindLook(trial.weight[best], child, best);
                at = best;
            }
            return MAX_STOP;
        }

        void findPlaces(int n, int color, int hard, int t) {
            newColor = color;
            newHard = hard;
            for (int i = 0; i < asked.length; i++) {
                asked[i] = 0;
                sure[i] = 0;
            }
            recordPath(t);
            least = NEVER;
            for (int a = 0; a < plan.cells; a++) {
                if (n == 1) {
                    tryPlaces(1, a, a);
                }
                for (int b = a + 1; b < plan.cells && n == 2; b++) {
                    tryPlaces(2, a, b);
                }
            }
        }

        private void recordPath(int t) {
            pathLength = 0;
            trial.copyFrom(now);
            for (int i = 0; i < t && i < LONGEST_PLACE; i++) {
                for (int c = 0; c < trial.childCount; c++) {
                    if (trial.children[c].start <= trial.second) {
                        path[pathLength] = c * MAX_CELLS + trial.children[c].cell;
                        pathLength++;
                    }
                }
                if (trial.second == trial.sun) {
                    path[pathLength] = SUN_EVENT;
                    pathLength++;
                }
                trial.passSeconds(1, true);
            }
        }

        private void tryPlaces(int n, int a, int b) {
            layEggs(n, a, b);
            for (int i = 0; i < pathLength; i++) {
                if (path[i] == SUN_EVENT) {
                    meltAll(now.eggCount + n);
                } else {
                    lookAgain(path[i] / MAX_CELLS, path[i] % MAX_CELLS, now.eggCount + n);
                }
            }
            int unlike = unlikeThen();
            if (unlike < least) {
                least = unlike;
                placed[0] = a;
                placed[1] = b;
            }
        }

        private void layEggs(int n, int a, int b) {
            for (int i = 0; i < plan.cells; i++) {
                hiddenAt[i] = 0;
            }
            for (int c = 0; c < now.childCount; c++) {
                has[c] = now.children[c].has;
            }
            int all = now.eggCount + n;
            for (int e = 0; e < all && e < ROOM; e++) {
                boolean old = e < now.eggCount;
                eggCell[e] = old ? now.eggs[e].cell : e == now.eggCount ? a : b;
                gone[e] = old && now.eggs[e].owner != HIDDEN;
                if (!gone[e]) {
                    hiddenAt[eggCell[e]]++;
                }
            }
        }

        private void meltAll(int all) {
            for (int e = 0; e < all && e < ROOM; e++) {
                if (!gone[e] && plan.kind[eggCell[e]] == GRASS) {
                    gone[e] = true;
                    hiddenAt[eggCell[e]]--;
                }
            }
        }

        private void lookAgain(int c, int cell, int all) {
            for (int e = 0; e < all && e < ROOM && hiddenAt[cell] > 0; e++) {
                if (!gone[e] && eggCell[e] == cell && takesSurely(c, e)) {
                    gone[e] = true;
                    hiddenAt[cell]--;
                    has[c]++;
                }
            }
        }

        private boolean takesSurely(int c, int e) {
            boolean old = e < now.eggCount;
            int at = c * SLOTS + (old ? e : MAX_EGGS + eggCell[e]);
            int bit = 1 << has[c];
            if ((asked[at] & bit) == 0) {
                asked[at] |= bit;
                nameTried(c, e);
                if (plan.oddsAsNamed() >= 50) {
                    sure[at] |= bit;
                }
            }
            return (sure[at] & bit) != 0 && now.mayTake(c, old ? now.eggs[e].color : newColor);
        }

        private void nameTried(int c, int e) {
            if (e < now.eggCount) {
                plan.nameEgg(eggCell[e], now.eggs[e].color, now.eggs[e].hard);
            } else {
                plan.nameEgg(eggCell[e], newColor, newHard);
            }
            plan.nameChild(c, now.children[c].age, has[c]);
        }

        private int unlikeThen() {
            int most = has[0];
            int fewest = has[0];
            for (int c = 1; c < now.childCount; c++) {
                most = Math.max(most, has[c]);
                fewest = Math.min(fewest, has[c]);
            }
            return most - fewest;
        }

        /** How many RESTS there are; their pairs are kept. */
        int findRests() {
            bushes = 0;
            for (int i = 0; i < plan.cells; i++) {
                addBush(now.weight[i]);
            }
            int found = 0;
            for (int i = 0; i < bushes; i++) {
                for (int j = 0; j < bushes; j++) {
                    if (isBest(i, j) && isBest(j, i)) {
                        restPairs[found] = 10 * i + j;
                        found++;
                    }
                }
            }
            return found;
        }

        /** CELLS of the same WEIGHT are worth the same, so that only WEIGHTS are kept. */
        private void addBush(int weight) {
            int at = bushes;
            if (bushes < MAX_BUSHES) {
                bushes++;
            }
            for (; at > 0 && greatest[at - 1] < weight; at--) {
                if (at < MAX_BUSHES) {
                    greatest[at] = greatest[at - 1];
                }
            }
            if (at < MAX_BUSHES) {
                greatest[at] = weight;
            }
        }

        private int gain(int mine, int other) {
            return mine == other ? greatest[mine] / 2 : greatest[mine];
        }

        private boolean isBest(int mine, int other) {
            for (int k = 0; k < bushes; k++) {
                if (gain(k, other) > gain(mine, other)) {
                    return false;
                }
            }
            return true;
        }

        int findLater(int t) {
            int oldest = 0;
            for (int c = 1; c < now.childCount; c++) {
                if (now.children[c].age > now.children[oldest].age) {
                    oldest = c;
                }
            }
            int best = 0;
            least = NEVER;
            for (int d = 0; d <= LATEST; d++) {
                trial.copyFrom(now);
                trial.children[oldest].start += d;
                trial.passSeconds(t, true);
                int unlike = trial.unlike();
                if (unlike < least) {
                    least = unlike;
                    best = d;
                }
            }
            return best;
        }

        int tearsBy(int rule, int t) {
            trial.copyFrom(now);
            trial.rule = rule;
            trial.passSeconds(t, true);
            return trial.tearsNow();
        }

        int findKindest(int t) {
            int kindest = 0;
            int fewest = NEVER;
            for (int r = 0; r < RULES; r++) {
                int tears = tearsBy(r, t);
                if (tears < fewest) {
                    fewest = tears;
                    kindest = r;
                }
            }
            return kindest;
        }

        int startBits(int child) {
            seen.weighStrikes();
            int bits = 0;
            for (int start = 0; start <= LATEST; start++) {
                if (agrees(child, start)) {
                    bits |= 1 << start;
                }
            }
            return bits;
        }

        private boolean agrees(int child, int start) {
            trial.copyFrom(first);
            trial.children[child].start = start;
            int last = seen.lastSecond();
            for (int i = 0; i < last && i < LONGEST; i++) {
                trial.passSeconds(1, true);
                if (!seen.agrees(trial)) {
                    return false;
                }
            }
            return true;
        }

        int luckyMornings(int seed, int t, int child, int n) {
            int lucky = 0;
            int number = seed;
            for (int m = 0; m < MORNINGS; m++) {
                trial.copyFrom(now);
                trial.number = number;
                trial.passSeconds(t, false);
                number = trial.number;
                if (trial.children[child].has >= n) {
                    lucky++;
                }
            }
            return lucky;
        }

        int foundOtherwise(int what, int i, int t) {
            trial.copyFrom(now);
            if (what == 1) {
                trial.sun = NEVER;
            }
            for (int c = 0; c < trial.childCount; c++) {
                Child other = trial.children[c];
                if (what == 0) {
                    other.age = 11;
                } else if (what == 2 && c == i) {
                    other.start = NEVER;
                } else if (what == 3) {
                    other.start = 0;
                } else if (what == 4) {
                    other.pace = 0;
                }
            }
            trial.passSeconds(t, true);
            return trial.eggsFound();
        }
    }

    /** What was SEEN, STRIKES among it. */
    private static final class Seen {
        private final int[] seconds = new int[MAX_SEEN];
        private final int[] child = new int[MAX_SEEN];
        private final int[] many = new int[MAX_SEEN];
        private final boolean[] atLeast = new boolean[MAX_SEEN];
        /** What a STRIKE strikes; NONE: it is none. */
        private final int[] strikes = new int[MAX_SEEN];
        private final boolean[] struck = new boolean[MAX_SEEN];
        int filled;
        /** NONE: by all. */
        int knownBy = NONE;

        void forgetAll() {
            filled = 0;
            knownBy = NONE;
        }

        int knownCount() {
            return knownBy == NONE ? filled : knownBy;
        }

        int add(int afterSeconds, int ofChild, int eggs, boolean orMore) {
            if (filled >= MAX_SEEN) {
                return NONE;
            }
            seconds[filled] = afterSeconds;
            child[filled] = ofChild;
            many[filled] = eggs;
            atLeast[filled] = orMore;
            strikes[filled] = NONE;
            filled++;
            return filled - 1;
        }

        int addStrike(int target) {
            if (target < 0 || target >= filled || filled >= MAX_SEEN) {
                return NONE;
            }
            strikes[filled] = target;
            filled++;
            return filled - 1;
        }

        /** From the last one on, so that a STRIKE that is STRUCK strikes nothing. */
        void weighStrikes() {
            int known = knownCount();
            for (int i = 0; i < known; i++) {
                struck[i] = false;
            }
            for (int i = known - 1; i >= 0; i--) {
                if (!struck[i] && strikes[i] != NONE) {
                    struck[strikes[i]] = true;
                }
            }
        }

        private boolean counts(int i) {
            return !struck[i] && strikes[i] == NONE;
        }

        int lastSecond() {
            int last = 0;
            int known = knownCount();
            for (int i = 0; i < known; i++) {
                if (counts(i)) {
                    last = Math.max(last, seconds[i]);
                }
            }
            return last;
        }

        /** Whether all KNOWN of the SECOND that it is now are so. */
        boolean agrees(Morning morning) {
            int known = knownCount();
            for (int i = 0; i < known; i++) {
                if (counts(i) && seconds[i] == morning.second
                        && (morning.children[child[i]].has >= many[i]) != atLeast[i]) {
                    return false;
                }
            }
            return true;
        }
    }

    /** What was done by call since the last SECOND, the oldest first. */
    private static final class Undoing {
        private static final int DID_HIDE = 0;
        private static final int DID_TAKE = 1;
        private static final int DID_SET = 2;
        private static final int DID_RULE = 3;

        private final int[] what = new int[MAX_UNDO];
        private final int[] whose = new int[MAX_UNDO];
        private final int[] where = new int[MAX_UNDO];
        private final int[] hard = new int[MAX_UNDO];
        int left;

        void forgetAll() {
            left = 0;
        }

        private void note(int did, int one, int cell, int how) {
            if (left >= MAX_UNDO) {
                dropOldest();
            }
            what[left] = did;
            whose[left] = one;
            where[left] = cell;
            hard[left] = how;
            left++;
        }

        private void dropOldest() {
            for (int i = 1; i < left; i++) {
                what[i - 1] = what[i];
                whose[i - 1] = whose[i];
                where[i - 1] = where[i];
                hard[i - 1] = hard[i];
            }
            left--;
        }

        void noteHidden() {
            note(DID_HIDE, 0, 0, 0);
        }

        void noteTaken(Egg taken) {
            note(DID_TAKE, taken.color, taken.cell, taken.hard);
        }

        void noteSet(int child, int oldCell) {
            note(DID_SET, child, oldCell, 0);
        }

        void noteRule(int oldRule) {
            note(DID_RULE, oldRule, 0, 0);
        }

        boolean undoLatest(Morning morning) {
            if (left <= 0) {
                return false;
            }
            left--;
            switch (what[left]) {
                case DID_HIDE:
                    morning.eggCount--;
                    break;
                case DID_TAKE:
                    morning.addEgg(where[left], whose[left], hard[left]);
                    break;
                case DID_SET:
                    morning.children[whose[left]].cell = where[left];
                    break;
                default:
                    morning.rule = whose[left];
                    break;
            }
            return true;
        }
    }
}
