import java.math.BigInteger;
import java.util.ArrayDeque;
import java.util.ArrayList;
import java.util.Arrays;
import java.util.HashMap;
import java.util.List;
import java.util.Map;
import java.util.NoSuchElementException;

/** The document in its plainest form, slow and with all of the Java library, to compare answers with. */
final class Model {
    private static final long ERROR = Long.MIN_VALUE;
    private static final List<String> LANGUAGE = List.of("garden", "bush", "pot", "tree", "egg", "child", "rule",
            "line", "dog", "sun", "seed", "law", "red", "blue", "green", "gold", "free", "own", "behind", "see",
            "hide", "joy", "keep", "or", "and", "not", "age", "hard", "kind", "color", "mine", "row", "many");
    private static final List<String> NAMES = List.of("age", "hard", "kind", "color", "mine", "row", "many");

    private static final class Fault extends RuntimeException {
        final int number;
        final int place;

        Fault(int number, int place) {
            this.number = number;
            this.place = place;
        }
    }

    private record Token(String word, int place) {
        boolean digits() {
            return !word.isEmpty() && Character.isDigit(word.charAt(0));
        }

        boolean letters() {
            return !word.isEmpty() && word.charAt(0) >= 'a' && word.charAt(0) <= 'z';
        }

        boolean none() {
            return word.startsWith("!") || letters() && word.length() > 6;
        }
    }

    /** A tree of an E. */
    private record Knot(String what, Knot left, Knot right) {
        BigInteger value(Map<String, Long> names) {
            if (left == null) {
                return names.containsKey(what) ? BigInteger.valueOf(names.get(what)) : new BigInteger(what);
            }
            BigInteger a = left.value(names);
            if (what.equals("not")) {
                return bit(a.signum() == 0);
            }
            BigInteger b = right.value(names);
            int order = a.compareTo(b);
            BigInteger answer = switch (what) {
                case "+" -> a.add(b);
                case "-" -> a.subtract(b);
                case "*" -> a.multiply(b);
                case "/" -> a.divide(b);
                case "<" -> bit(order < 0);
                case "<=" -> bit(order <= 0);
                case "=" -> bit(order == 0);
                case "<>" -> bit(order != 0);
                case ">=" -> bit(order >= 0);
                case ">" -> bit(order > 0);
                case "or" -> bit(a.signum() != 0 || b.signum() != 0);
                default -> bit(a.signum() != 0 && b.signum() != 0);
            };
            if (answer.abs().compareTo(BigInteger.TEN.pow(12)) > 0) {
                throw new ArithmeticException();
            }
            return answer;
        }

        private static BigInteger bit(boolean so) {
            return so ? BigInteger.ONE : BigInteger.ZERO;
        }
    }

    private static final class Egg implements Cloneable {
        int cell;
        int color;
        int hard;
        int owner = -1;
    }

    private static final class Kid {
        String name;
        int cell;
        int age;
        int pace;
        int start;
        int looks;
    }

    private static final class World {
        int wide = 6;
        int high = 5;
        Map<Integer, Integer> kinds = new HashMap<>();
        List<Egg> eggs = new ArrayList<>();
        List<Kid> kids = new ArrayList<>();
        int rule = 0;
        int line = 0;
        int dog = 0;
        int sun = -1;
        long seed = 0;
        Map<String, Knot> laws = new HashMap<>();
        int knots = 0;
        int second = 0;
        List<int[]> lookLog = new ArrayList<>();
        int textEggs = 0;

        World copy() {
            World w = new World();
            w.wide = wide;
            w.high = high;
            w.kinds = kinds;
            for (Egg e : eggs) {
                w.addEgg(e.cell, e.color, e.hard).owner = e.owner;
            }
            for (Kid k : kids) {
                Kid c = new Kid();
                c.name = k.name;
                c.cell = k.cell;
                c.age = k.age;
                c.pace = k.pace;
                c.start = k.start;
                c.looks = k.looks;
                w.kids.add(c);
            }
            w.rule = rule;
            w.line = line;
            w.dog = dog;
            w.sun = sun;
            w.seed = seed;
            w.laws = laws;
            w.knots = knots;
            w.second = second;
            w.lookLog = new ArrayList<>(lookLog);
            w.textEggs = textEggs;
            return w;
        }

        Egg addEgg(int cell, int color, int hard) {
            Egg e = new Egg();
            e.cell = cell;
            e.color = color;
            e.hard = hard;
            eggs.add(e);
            return e;
        }

        int cells() {
            return wide * high;
        }

        int kind(int cell) {
            return kinds.getOrDefault(cell, 0);
        }

        int has(int kid) {
            return (int) eggs.stream().filter(e -> e.owner == kid).count();
        }

        long law(String law, int age, int hard, int kind, int color, int mine, int row, int many) {
            Knot knot = laws.get(law);
            if (knot == null) {
                return ERROR;
            }
            try {
                return knot.value(Map.of("age", (long) age, "hard", (long) hard, "kind", (long) kind, "color",
                        (long) color, "mine", (long) mine, "row", (long) row, "many", (long) many)).longValueExact();
            } catch (ArithmeticException e) {
                return ERROR;
            }
        }

        long see(int kid, int cell, int color, int hard, int many) {
            return law("see", kids.get(kid).age, hard, kind(cell), color, color == kid % 4 ? 1 : 0, cell / wide, many);
        }

        int oddsAt(int kid, int cell, int color, int hard, int many) {
            long v = see(kid, cell, color, hard, many);
            if (v == ERROR) {
                v = 100 - 10 * hard - (kind(cell) == 3 && kids.get(kid).age < 8 ? 20 : 0);
            }
            return (int) Math.min(100, Math.max(0, v));
        }

        int odds(int kid, Egg e) {
            return oddsAt(kid, e.cell, e.color, e.hard, has(kid));
        }

        long joy(int kid, Egg e, int many) {
            return law("joy", kids.get(kid).age, e.hard, kind(e.cell), e.color, e.color == kid % 4 ? 1 : 0,
                    e.cell / wide, many);
        }

        int worth(int kid, Egg e) {
            long v = joy(kid, e, 0);
            return v == ERROR ? e.color == kid % 4 ? 20 : 10 : (int) Math.min(999, Math.max(0, v));
        }

        long hideLaw(int cell) {
            return law("hide", 0, 0, kind(cell), 0, 0, cell / wide, 0);
        }

        int liking(int cell) {
            long v = hideLaw(cell);
            return v == ERROR ? 1 + kind(cell) : (int) Math.min(999, Math.max(0, v));
        }

        long keepLaw(Egg e) {
            return law("keep", 0, e.hard, kind(e.cell), e.color, 0, e.cell / wide, second);
        }

        int weight(int cell) {
            long w = liking(cell) * 1000L;
            for (int[] look : lookLog) {
                if (look[1] == cell) {
                    w = w * (100 - oddsAt(look[0], cell, 0, 5, 0)) / 100;
                }
            }
            return (int) w;
        }

        boolean lookedAt(int cell) {
            return lookLog.stream().anyMatch(l -> l[1] == cell);
        }

        boolean mayGo(int kid, int cell) {
            return !(rule == 2 && kids.get(kid).age >= 8 && cell / wide < line);
        }

        int distance(int a, int b) {
            return Math.abs(a % wide - b % wide) + Math.abs(a / wide - b / wide);
        }

        long draw() {
            seed = (seed * 1103515245L + 12345L) % (1L << 31);
            return seed / 65536;
        }

        void go(int n, boolean sure) {
            for (int i = 0; i < n; i++) {
                passOne(sure);
            }
        }

        private void passOne(boolean sure) {
            for (int k = 0; k < kids.size(); k++) {
                Kid kid = kids.get(k);
                if (kid.start > second) {
                    continue;
                }
                for (Egg e : eggs) {
                    if (e.owner != -1 || e.cell != kid.cell || rule == 1 && e.color != k % 4) {
                        continue;
                    }
                    boolean found = sure ? odds(k, e) >= 50 : draw() % 100 < odds(k, e);
                    if (found) {
                        e.owner = k;
                    }
                }
                kid.looks++;
                lookLog.add(new int[] {k, kid.cell});
            }
            boolean[] looked = new boolean[cells()];
            for (int[] look : lookLog) {
                looked[look[1]] = true;
            }
            for (int k = 0; k < kids.size(); k++) {
                Kid kid = kids.get(k);
                for (int step = 0; kid.start <= second && step < kid.pace; step++) {
                    int best = -1;
                    for (int c = cells() - 1; c >= 0; c--) {
                        if (!looked[c] && mayGo(k, c)
                                && (best < 0 || distance(kid.cell, c) <= distance(kid.cell, best))) {
                            best = c;
                        }
                    }
                    if (best < 0) {
                        continue;
                    }
                    int dx = Integer.signum(best % wide - kid.cell % wide);
                    int dy = Integer.signum(best / wide - kid.cell / wide);
                    kid.cell += dx != 0 ? dx : dy * wide;
                }
            }
            if (!sure && dog > 0 && second > 0 && second % dog == 0) {
                int cell = (int) (draw() % cells());
                eggs.stream().filter(e -> e.owner == -1 && e.cell == cell).findFirst().ifPresent(e -> e.owner = -2);
            }
            if (second == sun) {
                eggs.stream().filter(e -> e.owner == -1 && kind(e.cell) == 0).forEach(e -> e.owner = -3);
            }
            second++;
        }

        int[] haves() {
            int[] all = new int[kids.size()];
            for (int k = 0; k < all.length; k++) {
                all[k] = has(k);
            }
            return all;
        }

        int unlike() {
            int[] all = haves();
            return all.length == 0 ? 0 : Arrays.stream(all).max().getAsInt() - Arrays.stream(all).min().getAsInt();
        }

        int tears() {
            int[] all = haves();
            return all.length == 0 ? 0 : all.length * Arrays.stream(all).max().getAsInt() - Arrays.stream(all).sum();
        }

        int found() {
            return (int) eggs.stream().filter(e -> e.owner >= 0).count();
        }

        int best(int kid, int from, int[] weights) {
            int best = -1;
            for (int c = 0; c < cells(); c++) {
                if (mayGo(kid, c) && (best < 0 || fraction(weights[c], distance(from, c) + 1,
                        weights[best], distance(from, best) + 1) > 0)) {
                    best = c;
                }
            }
            return best;
        }

        private static int fraction(long a, long b, long c, long d) {
            return Long.compare(a * d, c * b);
        }

        int[] weights() {
            int[] all = new int[cells()];
            for (int c = 0; c < all.length; c++) {
                all[c] = weight(c);
            }
            return all;
        }
    }

    private record Note(int seconds, int kid, int many, boolean atLeast, int strikes) {
    }

    private final StringBuilder tape = new StringBuilder();
    private World first = new World();
    private World now = new World();
    private World image = null;
    private List<Note> seen = new ArrayList<>();
    private int knownBy = -1;
    private ArrayDeque<World> undo = new ArrayDeque<>();
    private int fault = 0;
    private int faultPlace = -1;

    int feed(int a, int b, int c, int d, int e) {
        if (tape.length() + 20 > 700) {
            return -1;
        }
        for (int four : new int[] {a, b, c, d, e}) {
            for (int i = 3; i >= 0; i--) {
                tape.append((char) (four >>> 8 * i & 255));
            }
        }
        return tape.length();
    }

    int text(int n) {
        if (n < 0 || n > tape.length()) {
            return -2;
        }
        String text = tape.substring(0, n);
        tape.setLength(0);
        fault = 0;
        faultPlace = -1;
        try {
            Parser parser = new Parser(text);
            int lines = parser.lines();
            first = parser.world;
            first.textEggs = first.eggs.size();
            now = first.copy();
            image = null;
            seen = new ArrayList<>();
            knownBy = -1;
            undo.clear();
            return lines;
        } catch (Fault f) {
            fault = f.number;
            faultPlace = f.place;
            return -1;
        }
    }

    private static final class Parser {
        final World world = new World();
        private final List<Token> tokens = new ArrayList<>();
        private int at = 0;
        private final List<String> told = new ArrayList<>();
        private boolean cellLines = false;
        private int open = 0;

        Parser(String text) {
            int i = 0;
            while (i < text.length()) {
                int from = i;
                char c = text.charAt(i);
                i++;
                if (c == ' ' || c == '\n') {
                    continue;
                }
                if (c >= 'a' && c <= 'z') {
                    while (i < text.length() && text.charAt(i) >= 'a' && text.charAt(i) <= 'z') {
                        i++;
                    }
                } else if (c >= '0' && c <= '9') {
                    while (i < text.length() && text.charAt(i) >= '0' && text.charAt(i) <= '9') {
                        i++;
                    }
                } else if (";()+-*/=<>".indexOf(c) < 0) {
                    tokens.add(new Token("!", from));
                    continue;
                } else if (i < text.length() && List.of("<=", "<>", ">=").contains(text.substring(from, i + 1))) {
                    i++;
                }
                tokens.add(new Token(text.substring(from, i), from));
            }
            tokens.add(new Token("", text.length()));
        }

        private Token peek() {
            return tokens.get(at);
        }

        private Fault wrong() {
            return new Fault(1, peek().place);
        }

        private boolean is(String... words) {
            return List.of(words).contains(peek().word);
        }

        private String oneOf(String... words) {
            if (!is(words)) {
                throw wrong();
            }
            return tokens.get(at++).word;
        }

        private int number(int low, int high) {
            if (!peek().digits()) {
                throw wrong();
            }
            BigInteger v = new BigInteger(peek().word);
            if (v.compareTo(BigInteger.valueOf(low)) < 0 || v.compareTo(BigInteger.valueOf(high)) > 0) {
                throw new Fault(2, peek().place);
            }
            at++;
            return v.intValue();
        }

        private int place() {
            int x = number(0, world.wide - 1);
            int y = number(0, world.high - 1);
            return y * world.wide + x;
        }

        int lines() {
            int lines = 0;
            while (!peek().word.isEmpty()) {
                line();
                oneOf(";");
                lines++;
            }
            return lines;
        }

        private void limit(int have, int most) {
            if (have >= most) {
                throw new Fault(2, tokens.get(at - 1).place);
            }
            cellLines = true;
        }

        private void line() {
            Token start = peek();
            String word = oneOf("garden", "bush", "pot", "tree", "egg", "child", "rule", "line", "dog", "sun", "seed",
                    "law");
            if (List.of("garden", "rule", "line", "dog", "sun", "seed").contains(word)) {
                if (told.contains(word)) {
                    throw new Fault(3, start.place);
                }
                told.add(word);
            }
            switch (word) {
                case "garden" -> {
                    if (cellLines) {
                        throw new Fault(4, start.place);
                    }
                    world.wide = number(1, 8);
                    world.high = number(1, 6);
                }
                case "egg" -> {
                    limit(world.eggs.size(), 12);
                    int color = List.of("red", "blue", "green", "gold").indexOf(oneOf("red", "blue", "green", "gold"));
                    int cell = place();
                    world.addEgg(cell, color, number(0, 9));
                }
                case "child" -> child();
                case "rule" -> world.rule = List.of("free", "own", "behind").indexOf(oneOf("free", "own", "behind"));
                case "line" -> world.line = number(0, 6);
                case "dog" -> world.dog = number(1, 99);
                case "sun" -> world.sun = number(0, 999);
                case "seed" -> world.seed = number(0, 99999);
                case "law" -> law();
                default -> {
                    limit(world.kinds.size(), 16);
                    int cell = place();
                    if (world.kinds.containsKey(cell)) {
                        throw new Fault(3, tokens.get(at - 1).place);
                    }
                    world.kinds.put(cell, List.of("", "bush", "pot", "tree").indexOf(word));
                }
            }
        }

        private void child() {
            limit(world.kids.size(), 4);
            Token name = peek();
            if (!name.letters() || name.none() || LANGUAGE.contains(name.word)) {
                throw wrong();
            }
            for (Kid k : world.kids) {
                if (k.name.equals(name.word)) {
                    throw new Fault(3, name.place);
                }
            }
            at++;
            Kid kid = new Kid();
            kid.name = name.word;
            kid.cell = place();
            kid.age = number(1, 15);
            kid.pace = number(0, 3);
            kid.start = number(0, 99);
            world.kids.add(kid);
        }

        private void law() {
            Token kind = peek();
            String law = oneOf("see", "hide", "joy", "keep");
            if (world.laws.containsKey(law)) {
                throw new Fault(3, kind.place);
            }
            open = 0;
            world.laws.put(law, expression());
        }

        private Knot join(Knot left, java.util.function.Supplier<Knot> behind) {
            String sign = knot();
            return new Knot(sign, left, behind.get());
        }

        /** Takes a TOKEN that is a KNOT. */
        private String knot() {
            if (world.knots == 64) {
                throw new Fault(2, peek().place);
            }
            world.knots++;
            return tokens.get(at++).word;
        }

        private Knot expression() {
            Knot left = conjunction();
            while (is("or")) {
                left = join(left, this::conjunction);
            }
            return left;
        }

        private Knot conjunction() {
            Knot left = denial();
            while (is("and")) {
                left = join(left, this::denial);
            }
            return left;
        }

        private Knot denial() {
            if (is("not")) {
                knot();
                return new Knot("not", denial(), null);
            }
            Knot left = sum();
            return is("<", "<=", "=", "<>", ">=", ">") ? join(left, this::sum) : left;
        }

        private Knot sum() {
            Knot left = product();
            while (is("+", "-")) {
                left = join(left, this::product);
            }
            return left;
        }

        private Knot product() {
            Knot left = part();
            while (is("*", "/")) {
                left = join(left, this::part);
            }
            return left;
        }

        private Knot part() {
            if (is("(")) {
                if (open == 8) {
                    throw new Fault(2, peek().place);
                }
                open++;
                at++;
                Knot inside = expression();
                oneOf(")");
                open--;
                return inside;
            }
            if (peek().digits()) {
                int before = at;
                int value = number(0, 9999);
                at = before;
                knot();
                return new Knot("" + value, null, null);
            }
            if (!NAMES.contains(peek().word)) {
                throw wrong();
            }
            return new Knot(knot(), null, null);
        }
    }

    int fault(int what) {
        return what == 0 ? fault : what == 1 ? faultPlace : -1;
    }

    int named(int letters) {
        for (int k = 0; k < now.kids.size(); k++) {
            if (Check.letters(now.kids.get(k).name) == letters) {
                return k;
            }
        }
        return -1;
    }

    private boolean noCell(int cell) {
        return cell < 0 || cell >= now.cells();
    }

    private boolean noEgg(int egg) {
        return egg < 0 || egg >= now.eggs.size();
    }

    private boolean noKid(int kid) {
        return kid < 0 || kid >= now.kids.size();
    }

    private static boolean out(int value, int low, int high) {
        return value < low || value > high;
    }

    int cell(int cell, int what) {
        if (noCell(cell)) {
            throw new IndexOutOfBoundsException();
        }
        return switch (what) {
            case 0 -> now.kind(cell);
            case 1 -> (int) now.eggs.stream().filter(e -> e.cell == cell && e.owner == -1).count();
            case 2 -> now.lookedAt(cell) ? 1 : 0;
            case 3 -> (int) now.kids.stream().filter(k -> k.cell == cell).count();
            default -> throw new NoSuchElementException();
        };
    }

    int egg(int egg, int what) {
        if (noEgg(egg) || out(what, 0, 3)) {
            return -4;
        }
        Egg e = now.eggs.get(egg);
        return new int[] {e.cell, e.color, e.hard, e.owner}[what];
    }

    int child(int child, int what) {
        if (noKid(child) || out(what, 0, 4)) {
            return -1;
        }
        int bits = 0;
        int worth = 0;
        for (int e = 0; e < now.eggs.size(); e++) {
            if (now.eggs.get(e).owner == child) {
                bits += 1 << e;
                worth += now.worth(child, now.eggs.get(e));
            }
        }
        Kid k = now.kids.get(child);
        return new int[] {k.cell, Integer.bitCount(bits), bits, k.looks, worth}[what];
    }

    int odds(int child, int egg) {
        return noKid(child) || noEgg(egg) ? -1 : now.odds(child, now.eggs.get(egg));
    }

    long law(int what, int child, int other) {
        if (what == 2) {
            return noCell(child) ? ERROR : now.hideLaw(child);
        }
        if (what == 3) {
            return noEgg(child) ? ERROR : now.keepLaw(now.eggs.get(child));
        }
        if (out(what, 0, 1) || noKid(child) || noEgg(other)) {
            return ERROR;
        }
        Egg e = now.eggs.get(other);
        return what == 0 ? now.see(child, e.cell, e.color, e.hard, now.has(child)) : now.joy(child, e, now.has(child));
    }

    private void remember() {
        undo.push(now.copy());
        if (undo.size() > 20) {
            undo.removeLast();
        }
    }

    int hide(int cell, int color, int hard) {
        if (noCell(cell) || out(color, 0, 3) || out(hard, 0, 9) || now.eggs.size() == 16) {
            return -1;
        }
        remember();
        now.addEgg(cell, color, hard);
        return now.eggs.size() - 1;
    }

    boolean take() {
        int last = now.eggs.size() - 1;
        if (last < now.textEggs || now.eggs.get(last).owner != -1) {
            return false;
        }
        remember();
        now.eggs.remove(last);
        return true;
    }

    boolean set(int child, int cell) {
        if (noKid(child) || noCell(cell) || now.kids.get(child).cell == cell) {
            return false;
        }
        remember();
        now.kids.get(child).cell = cell;
        return true;
    }

    boolean rule(int rule) {
        if (out(rule, 0, 2) || rule == now.rule) {
            return false;
        }
        remember();
        now.rule = rule;
        return true;
    }

    int go(int n) {
        if (out(n, 0, 200) || now.second + n > 9999) {
            return -1;
        }
        now.go(n, false);
        if (n > 0) {
            undo.clear();
        }
        return now.second;
    }

    int weight(int cell) {
        return noCell(cell) ? -1 : now.weight(cell);
    }

    int next(int child) {
        return noKid(child) ? -1 : now.best(child, now.kids.get(child).cell, now.weights());
    }

    int stop(int child, int cost) {
        if (noKid(child) || out(cost, 1, 99999)) {
            return -1;
        }
        int[] weights = now.weights();
        int at = now.kids.get(child).cell;
        int looks = 0;
        while (looks < 40) {
            int to = now.best(child, at, weights);
            if (to < 0 || weights[to] < (long) cost * (now.distance(at, to) + 1)) {
                break;
            }
            weights[to] = (int) (weights[to] * (100L - now.oddsAt(child, to, 0, 5, 0)) / 100);
            at = to;
            looks++;
        }
        return looks;
    }

    int place(int n, int color, int hard, int t, int what) {
        if (out(n, 1, 2) || out(color, 0, 3) || out(hard, 0, 9) || out(t, 1, 40) || out(what, 0, 2)
                || now.kids.isEmpty()) {
            return -1;
        }
        if (now.cells() < n) {
            return -3;
        }
        if (what == 2 && n == 1) {
            return -2;
        }
        int[] best = null;
        for (int a = 0; a < now.cells(); a++) {
            for (int b = n == 1 ? a : a + 1; b < (n == 1 ? a + 1 : now.cells()); b++) {
                World w = now.copy();
                w.addEgg(a, color, hard);
                if (n == 2) {
                    w.addEgg(b, color, hard);
                }
                w.go(t, true);
                if (best == null || w.unlike() < best[0]) {
                    best = new int[] {w.unlike(), a, b};
                }
            }
        }
        return best[what];
    }

    int later(int t, int what) {
        if (out(t, 1, 200) || out(what, 0, 1) || now.kids.isEmpty()) {
            return -1;
        }
        int oldest = 0;
        for (int k = 0; k < now.kids.size(); k++) {
            if (now.kids.get(k).age > now.kids.get(oldest).age) {
                oldest = k;
            }
        }
        int[] best = null;
        for (int d = 0; d <= 30; d++) {
            World w = now.copy();
            w.kids.get(oldest).start += d;
            w.go(t, true);
            if (best == null || w.unlike() < best[1]) {
                best = new int[] {d, w.unlike()};
            }
        }
        return best[what];
    }

    int tears(int rule, int t) {
        if (out(rule, 0, 2) || out(t, 1, 200)) {
            return -1;
        }
        World w = now.copy();
        w.rule = rule;
        w.go(t, true);
        return w.tears();
    }

    int kindest(int t) {
        if (out(t, 1, 200)) {
            return -1;
        }
        int best = 0;
        for (int r = 1; r < 3; r++) {
            best = tears(r, t) < tears(best, t) ? r : best;
        }
        return best;
    }

    private List<Integer> allRests() {
        List<Integer> cells = new ArrayList<>();
        for (int c = 0; c < now.cells(); c++) {
            cells.add(c);
        }
        int[] w = now.weights();
        cells.sort((a, b) -> w[a] != w[b] ? Integer.compare(w[b], w[a]) : Integer.compare(a, b));
        int many = Math.min(4, cells.size());
        List<Integer> rests = new ArrayList<>();
        for (int i = 0; i < many; i++) {
            for (int j = 0; j < many; j++) {
                boolean rest = true;
                for (int k = 0; k < many; k++) {
                    int wi = w[cells.get(i)] / (i == j ? 2 : 1);
                    int wj = w[cells.get(j)] / (i == j ? 2 : 1);
                    rest &= w[cells.get(k)] / (k == j ? 2 : 1) <= wi && w[cells.get(k)] / (k == i ? 2 : 1) <= wj;
                }
                if (rest) {
                    rests.add(10 * i + j);
                }
            }
        }
        return rests;
    }

    int rests() {
        return allRests().size();
    }

    int rest(int k) {
        return k < 0 ? -1 : k >= rests() ? -2 : allRests().get(k);
    }

    long alike(int what) {
        BigInteger sum = BigInteger.ZERO;
        BigInteger squares = BigInteger.ZERO;
        for (int c = 0; c < now.cells(); c++) {
            BigInteger h = BigInteger.valueOf(now.liking(c));
            sum = sum.add(h);
            squares = squares.add(h.multiply(h));
        }
        if (out(what, 0, 1) || sum.signum() == 0) {
            return -1;
        }
        BigInteger below = sum.multiply(sum);
        return (what == 0 ? squares : below).divide(below.gcd(squares)).longValueExact();
    }

    int forgot() {
        int sum = 0;
        for (Egg e : now.eggs) {
            long v = now.keepLaw(e);
            sum += e.owner != -1 ? 0 : 100 - (v == ERROR ? 100 : (int) Math.min(100, Math.max(0, v)));
        }
        return sum;
    }

    int worth(int child, int egg) {
        return noKid(child) || noEgg(egg) ? -1 : now.worth(child, now.eggs.get(egg));
    }

    int trade(int what) {
        if (out(what, 0, 3)) {
            return -1;
        }
        for (int i = 0; i < now.kids.size(); i++) {
            for (int j = i + 1; j < now.kids.size(); j++) {
                for (int a = 0; a < now.eggs.size(); a++) {
                    for (int b = 0; b < now.eggs.size(); b++) {
                        Egg x = now.eggs.get(a);
                        Egg y = now.eggs.get(b);
                        if (x.owner == i && y.owner == j && now.worth(i, y) > now.worth(i, x)
                                && now.worth(j, x) > now.worth(j, y)) {
                            return new int[] {i, j, a, b}[what];
                        }
                    }
                }
            }
        }
        return -2;
    }

    int shared(int egg) {
        if (noEgg(egg)) {
            return -1;
        }
        int[] worths = new int[now.kids.size()];
        int[] owners = new int[now.eggs.size()];
        Arrays.fill(owners, -2);
        for (int e = 0; e < owners.length; e++) {
            if (now.eggs.get(e).owner < 0) {
                continue;
            }
            int least = Arrays.stream(worths).min().getAsInt();
            int to = 0;
            while (worths[to] != least) {
                to++;
            }
            owners[e] = to;
            worths[to] += now.worth(to, now.eggs.get(e));
        }
        return owners[egg];
    }

    int see(int seconds, int child, int many, boolean atLeast) {
        if (out(seconds, 1, 200) || noKid(child) || out(many, 0, 16) || seen.size() == 24) {
            return -1;
        }
        seen.add(new Note(seconds, child, many, atLeast, -1));
        return seen.size() - 1;
    }

    int strike(int target) {
        if (out(target, 0, seen.size() - 1) || seen.size() == 24) {
            return -1;
        }
        seen.add(new Note(0, 0, 0, false, target));
        return seen.size() - 1;
    }

    boolean known(int n) {
        if (out(n, -1, seen.size())) {
            return false;
        }
        knownBy = n;
        return true;
    }

    private boolean isStruck(int note, int known) {
        for (int s = note + 1; s < known; s++) {
            if (seen.get(s).strikes == note && !isStruck(s, known)) {
                return true;
            }
        }
        return false;
    }

    int starts(int child) {
        if (noKid(child)) {
            return -1;
        }
        int known = knownBy < 0 ? seen.size() : knownBy;
        int bits = 0;
        for (int start = 0; start <= 30; start++) {
            boolean so = true;
            for (int s = 0; s < known && so; s++) {
                Note note = seen.get(s);
                if (note.strikes >= 0 || isStruck(s, known)) {
                    continue;
                }
                World w = first.copy();
                w.kids.get(child).start = start;
                w.go(note.seconds, true);
                so = note.atLeast == w.has(note.kid) >= note.many;
            }
            bits |= so ? 1 << start : 0;
        }
        return bits;
    }

    int chance(int seed, int t, int child, int n) {
        if (seed < 0 || out(t, 1, 200) || noKid(child) || out(n, 0, 16)) {
            return -1;
        }
        int lucky = 0;
        long number = seed;
        for (int m = 0; m < 10; m++) {
            World w = now.copy();
            w.seed = number;
            w.go(t, false);
            number = w.seed;
            lucky += w.has(child) >= n ? 1 : 0;
        }
        return lucky;
    }

    int tried(int what, int i, int t) {
        if (out(what, 0, 4) || out(t, 0, 200) || (what == 2 ? noKid(i) : i != 0)) {
            return -1;
        }
        World w = now.copy();
        for (Kid k : w.kids) {
            k.age = what == 0 ? 11 : k.age;
            k.start = what == 3 ? 0 : k.start;
            k.pace = what == 4 ? 0 : k.pace;
        }
        if (what == 1) {
            w.sun = -1;
        }
        if (what == 2) {
            w.kids.get(i).start = Integer.MAX_VALUE;
        }
        w.go(t, true);
        return w.found();
    }

    int undo() {
        if (undo.isEmpty()) {
            return -1;
        }
        now = undo.pop();
        return undo.size();
    }

    int keep() {
        image = now.copy();
        return now.second;
    }

    int back() {
        if (image == null) {
            return -1;
        }
        now = image.copy();
        undo.clear();
        return now.second;
    }

    int count(int what) {
        return switch (what) {
            case 0 -> now.wide;
            case 1 -> now.high;
            case 2 -> now.eggs.size();
            case 3 -> now.kids.size();
            case 4 -> now.knots;
            case 5 -> now.second;
            case 6 -> now.has(-1);
            case 7 -> now.found();
            case 8 -> now.has(-2);
            case 9 -> now.has(-3);
            case 10 -> (int) now.lookLog.stream().map(l -> l[1]).distinct().count();
            case 11 -> now.rule;
            case 12 -> seen.size();
            case 13 -> knownBy < 0 ? seen.size() : knownBy;
            case 14 -> undo.size();
            case 15 -> now.unlike();
            default -> -1;
        };
    }
}
