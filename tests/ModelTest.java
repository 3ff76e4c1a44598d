import java.util.NoSuchElementException;
import java.util.Random;

/** Runs of calls by chance, the class beside the plain model: every answer must be the same. */
public final class ModelTest {
    private static final String[] WORDS = {"garden", "bush", "pot", "tree", "egg", "child", "rule", "line", "dog",
            "sun", "seed", "law", "red", "blue", "green", "gold", "free", "own", "behind", "see", "hide", "joy",
            "keep", "or", "and", "not", "age", "hard", "kind", "color", "mine", "row", "many", "a", "bob", "abcdefg",
            ";", "(", ")", "+", "-", "*", "/", "<", "<=", "=", "<>", ">=", ">", "0", "1", "7", "12", "100", "#"};

    private final Random random;
    private final EggGarden garden = new EggGarden();
    private final Model model = new Model();
    private final StringBuilder log = new StringBuilder();
    private boolean failed = false;
    private int asked = 0;
    /** How seldom numbers are beyond their bounds. */
    private int tame = 40;

    private ModelTest(long seed) {
        random = new Random(seed);
    }

    public static void main(String[] args) {
        int runs = args.length > 0 ? Integer.parseInt(args[0]) : 400;
        long from = args.length > 1 ? Long.parseLong(args[1]) : 1;
        int wrong = 0;
        for (long seed = from; seed < from + runs && wrong < 5; seed++) {
            ModelTest test = new ModelTest(seed);
            test.run();
            if (test.failed) {
                wrong++;
                System.out.println("seed " + seed + ":\n" + test.log);
            }
        }
        System.out.println(runs + " runs, " + wrong + " unlike the model");
        if (wrong > 0) {
            System.exit(1);
        }
    }

    private void same(String call, long got, long want) {
        if (failed) {
            return;
        }
        asked++;
        log.append(call).append(" = ").append(got).append('\n');
        if (got != want) {
            failed = true;
            log.append("  due is ").append(want).append('\n');
        }
    }

    private int upTo(int most) {
        return random.nextInt(most + 1);
    }

    /** Mostly within, at times just beyond, or far. */
    private int about(int low, int high) {
        int dice = random.nextInt(tame);
        if (dice == 0) {
            return low - 1;
        }
        if (dice == 1) {
            return high + 1;
        }
        if (dice == 2) {
            return random.nextInt();
        }
        return low + random.nextInt(high - low + 1);
    }

    private void run() {
        int calls = 20 + random.nextInt(140);
        tame = random.nextInt(10) == 0 ? 6 : 40;
        tell(random.nextInt(10) == 0 ? brokenText() : goodText());
        if (random.nextInt(3) == 0) {
            crowd();
        }
        // An object is used for at most 512 calls; one turn of this loop makes less than a hundred.
        for (int i = 0; i < calls && !failed && asked < 410; i++) {
            callOne(random.nextInt(44));
        }
    }

    /** As many EGGS as there may be, and where one would hide two more. */
    private void crowd() {
        int cells = model.count(0) * model.count(1);
        for (int i = 0; i < 16; i++) {
            int cell = random.nextInt(cells);
            int color = upTo(3);
            int hard = upTo(6);
            same("hide(" + cell + ", " + color + ", " + hard + ")", garden.hide(cell, color, hard),
                    model.hide(cell, color, hard));
        }
        int before = upTo(12);
        same("go(" + before + ")", garden.go(before), model.go(before));
        int n = 1 + upTo(1);
        int color = upTo(3);
        int hard = upTo(5);
        int t = n == 1 || cells < 12 ? about(1, 40) : about(1, 12);
        for (int what = 0; what < 3; what++) {
            same("place(" + n + ", " + color + ", " + hard + ", " + t + ", " + what + ")",
                    garden.place(n, color, hard, t, what), model.place(n, color, hard, t, what));
        }
    }

    private void tell(String text) {
        log.append("// ").append(text).append('\n');
        for (int at = 0; at < text.length(); at += 20) {
            int[] v = new int[5];
            for (int i = 0; i < 20; i++) {
                v[i / 4] = v[i / 4] << 8 | (at + i < text.length() ? text.charAt(at + i) & 255 : ' ');
            }
            same("feed", garden.feed(v[0], v[1], v[2], v[3], v[4]), model.feed(v[0], v[1], v[2], v[3], v[4]));
        }
        int n = random.nextInt(30) == 0 ? about(0, text.length()) : text.length();
        same("text(" + n + ")", garden.text(n), model.text(n));
        for (int what = -1; what < 3; what++) {
            same("fault(" + what + ")", garden.fault(what), model.fault(what));
        }
    }

    private String expression(int depth) {
        int dice = random.nextInt(depth > 3 ? 4 : 14);
        if (dice < 2) {
            return "" + (random.nextInt(20) == 0 ? 9999 : random.nextInt(random.nextBoolean() ? 4 : 120));
        }
        if (dice < 4) {
            return WORDS[26 + random.nextInt(7)];
        }
        if (dice == 4) {
            return "not " + expression(depth + 1);
        }
        if (dice < 7) {
            return "(" + expression(depth + 1) + ")";
        }
        String[] signs = {"+", "-", "*", "/", "<", "<=", "=", "<>", ">=", ">", " or ", " and ", "*", "+", "-"};
        return expression(depth + 1) + signs[random.nextInt(signs.length)] + expression(depth + 1);
    }

    private String goodText() {
        StringBuilder t = new StringBuilder();
        int wide = 6;
        int high = 5;
        if (random.nextInt(4) > 0) {
            boolean tiny = random.nextInt(3) == 0;
            wide = 1 + random.nextInt(tiny ? 3 : 8);
            high = 1 + random.nextInt(tiny ? 2 : 6);
            t.append("garden ").append(wide).append(' ').append(high).append(';');
        }
        settings(t);
        int things = random.nextInt(random.nextInt(3) == 0 ? 18 : 6);
        for (int i = 0; i < things; i++) {
            t.append(WORDS[1 + random.nextInt(3)]).append(' ').append(random.nextInt(wide)).append(' ');
            t.append(random.nextInt(high)).append(';');
            if (random.nextInt(3) > 0) {
                i++;
            }
        }
        int eggs = random.nextInt(13);
        for (int i = 0; i < eggs; i++) {
            t.append("egg ").append(WORDS[12 + random.nextInt(4)]).append(' ').append(random.nextInt(wide));
            t.append(' ').append(random.nextInt(high)).append(' ').append(random.nextInt(10)).append(';');
        }
        int kids = random.nextInt(5);
        for (int i = 0; i < kids; i++) {
            t.append("child ").append((char) ('a' + i)).append(' ').append(random.nextInt(wide)).append(' ');
            t.append(random.nextInt(high)).append(' ').append(1 + random.nextInt(15)).append(' ');
            t.append(random.nextInt(4)).append(' ').append(random.nextInt(random.nextInt(3) == 0 ? 30 : 4)).append(';');
        }
        for (int law = 19; law < 23; law++) {
            if (random.nextInt(3) == 0) {
                t.append("law ").append(WORDS[law]).append(' ');
                if (law == 19 && random.nextBoolean()) {
                    t.append("90-hard*4-many*").append(random.nextInt(12)).append("+mine*9-kind*3").append(';');
                } else {
                    t.append(expression(0)).append(';');
                }
            }
        }
        return t.length() > 690 ? goodText() : t.toString();
    }

    private void settings(StringBuilder t) {
        if (random.nextInt(3) == 0) {
            t.append("rule ").append(WORDS[16 + random.nextInt(3)]).append(';');
        }
        if (random.nextInt(3) == 0) {
            t.append("line ").append(random.nextInt(7)).append(';');
        }
        if (random.nextInt(3) == 0) {
            t.append("dog ").append(1 + random.nextInt(5)).append(';');
        }
        if (random.nextInt(3) == 0) {
            t.append("sun ").append(random.nextInt(20)).append(';');
        }
        if (random.nextInt(2) == 0) {
            t.append("seed ").append(random.nextInt(100000)).append(';');
        }
    }

    /** A text with a TOKEN changed, left out or come in. */
    private String brokenText() {
        StringBuilder t = new StringBuilder(goodText());
        int changes = 1 + random.nextInt(2);
        for (int i = 0; i < changes && t.length() > 0; i++) {
            int at = random.nextInt(t.length());
            switch (random.nextInt(4)) {
                case 0 -> t.deleteCharAt(at);
                case 1 -> t.insert(at, " " + WORDS[random.nextInt(WORDS.length)] + " ");
                case 2 -> t.setCharAt(at, " ;(9a<".charAt(random.nextInt(6)));
                default -> {
                    int line = t.indexOf(";") + 1;
                    t.append(t, 0, line);
                }
            }
        }
        return t.length() > 690 ? brokenText() : t.toString();
    }

    private void callOne(int which) {
        if (which < 12) {
            askState(which);
        } else if (which < 22) {
            change(which);
        } else if (which < 34) {
            think(which);
        } else {
            remember(which);
        }
    }

    private int cellOf(java.util.function.IntSupplier call) {
        try {
            return call.getAsInt();
        } catch (IndexOutOfBoundsException e) {
            return -101;
        } catch (NoSuchElementException e) {
            return -102;
        }
    }

    private void askState(int which) {
        int child = about(0, 3);
        int egg = about(0, 15);
        int cell = about(0, Math.max(1, model.count(0) * model.count(1) - 1));
        int what = about(0, 4);
        switch (which) {
            case 0, 1 -> same("cell(" + cell + ", " + what + ")", cellOf(() -> garden.cell(cell, what)),
                    cellOf(() -> model.cell(cell, what)));
            case 2, 3 -> same("egg(" + egg + ", " + what + ")", garden.egg(egg, what), model.egg(egg, what));
            case 4, 5 -> same("child(" + child + ", " + what + ")", garden.child(child, what),
                    model.child(child, what));
            case 6 -> same("odds(" + child + ", " + egg + ")", garden.odds(child, egg), model.odds(child, egg));
            case 7 -> same("law(" + what + ", " + child + ", " + egg + ")", garden.law(what, child, egg),
                    model.law(what, child, egg));
            case 8 -> same("law(" + what + ", " + egg + ", " + egg + ")", garden.law(what, egg, egg),
                    model.law(what, egg, egg));
            case 9 -> {
                int letters = Check.letters("" + (char) ('a' + upTo(5))) + (random.nextInt(9) == 0 ? 1 : 0);
                same("named(" + letters + ")", garden.named(letters), model.named(letters));
            }
            case 10 -> same("worth(" + child + ", " + egg + ")", garden.worth(child, egg), model.worth(child, egg));
            default -> {
                for (int k = -1; k < 17; k++) {
                    same("count(" + k + ")", garden.count(k), model.count(k));
                }
            }
        }
    }

    private void change(int which) {
        int cell = about(0, model.count(0) * model.count(1) - 1);
        switch (which) {
            case 12, 13 -> {
                int color = about(0, 3);
                int hard = about(0, 9);
                same("hide(" + cell + ", " + color + ", " + hard + ")", garden.hide(cell, color, hard),
                        model.hide(cell, color, hard));
            }
            case 14 -> same("take()", garden.take() ? 1 : 0, model.take() ? 1 : 0);
            case 15, 16 -> {
                int child = about(0, 3);
                same("set(" + child + ", " + cell + ")", garden.set(child, cell) ? 1 : 0,
                        model.set(child, cell) ? 1 : 0);
            }
            case 17 -> {
                int rule = about(0, 2);
                same("rule(" + rule + ")", garden.rule(rule) ? 1 : 0, model.rule(rule) ? 1 : 0);
            }
            case 18, 19 -> {
                int n = random.nextInt(20) == 0 ? about(0, 200) : upTo(3);
                same("go(" + n + ")", garden.go(n), model.go(n));
            }
            case 20 -> same("undo()", garden.undo(), model.undo());
            default -> {
                if (random.nextInt(12) == 0) {
                    tell(random.nextInt(3) == 0 ? brokenText() : goodText());
                } else {
                    same("go(1)", garden.go(1), model.go(1));
                }
            }
        }
    }

    private void think(int which) {
        int child = about(0, 3);
        int t = random.nextInt(4) == 0 ? about(1, 200) : about(1, 20);
        switch (which) {
            case 22 -> {
                for (int cell = -1; cell < model.count(0) * model.count(1) + 1; cell++) {
                    same("weight(" + cell + ")", garden.weight(cell), model.weight(cell));
                }
            }
            case 23 -> same("next(" + child + ")", garden.next(child), model.next(child));
            case 24 -> {
                int cost = random.nextInt(3) == 0 ? about(1, 99999) : about(1, 900);
                same("stop(" + child + ", " + cost + ")", garden.stop(child, cost), model.stop(child, cost));
            }
            case 25 -> {
                int n = random.nextInt(3) == 0 ? about(1, 2) : 1;
                int color = about(0, 3);
                int hard = random.nextBoolean() ? about(0, 9) : 2;
                int seconds = n == 2 ? about(1, 9) : about(1, 40);
                for (int what = -1; what < 4; what++) {
                    same("place(" + n + ", " + color + ", " + hard + ", " + seconds + ", " + what + ")",
                            garden.place(n, color, hard, seconds, what), model.place(n, color, hard, seconds, what));
                }
            }
            case 26 -> {
                for (int what = -1; what < 3; what++) {
                    same("later(" + t + ", " + what + ")", garden.later(t, what), model.later(t, what));
                }
            }
            case 27 -> {
                int rule = about(0, 2);
                same("tears(" + rule + ", " + t + ")", garden.tears(rule, t), model.tears(rule, t));
            }
            case 28 -> same("kindest(" + t + ")", garden.kindest(t), model.kindest(t));
            case 29 -> {
                same("rests()", garden.rests(), model.rests());
                for (int k = -1; k < 17; k++) {
                    same("rest(" + k + ")", garden.rest(k), model.rest(k));
                }
            }
            case 30 -> {
                for (int what = -1; what < 3; what++) {
                    same("alike(" + what + ")", garden.alike(what), model.alike(what));
                }
            }
            case 31 -> same("forgot()", garden.forgot(), model.forgot());
            case 32 -> {
                for (int what = -1; what < 5; what++) {
                    same("trade(" + what + ")", garden.trade(what), model.trade(what));
                }
            }
            default -> {
                for (int egg = -1; egg < 17; egg++) {
                    same("shared(" + egg + ")", garden.shared(egg), model.shared(egg));
                }
            }
        }
    }

    private void remember(int which) {
        int child = about(0, 3);
        switch (which) {
            case 34, 35 -> {
                int seconds = random.nextInt(6) == 0 ? about(1, 200) : about(1, 12);
                int many = random.nextInt(3) == 0 ? about(0, 16) : about(0, 2);
                boolean atLeast = random.nextBoolean();
                same("see(" + seconds + ", " + child + ", " + many + ", " + atLeast + ")",
                        garden.see(seconds, child, many, atLeast), model.see(seconds, child, many, atLeast));
            }
            case 36 -> {
                int seen = about(0, Math.max(0, model.count(12) - 1));
                same("strike(" + seen + ")", garden.strike(seen), model.strike(seen));
            }
            case 37 -> {
                int n = about(-1, model.count(12));
                same("known(" + n + ")", garden.known(n) ? 1 : 0, model.known(n) ? 1 : 0);
            }
            case 38 -> same("starts(" + child + ")", garden.starts(child), model.starts(child));
            case 39 -> {
                int seed = random.nextInt(9) == 0 ? random.nextInt() : upTo(Integer.MAX_VALUE - 1);
                int t = random.nextInt(4) == 0 ? about(1, 200) : about(1, 12);
                int n = about(0, random.nextBoolean() ? 2 : 16);
                same("chance(" + seed + ", " + t + ", " + child + ", " + n + ")", garden.chance(seed, t, child, n),
                        model.chance(seed, t, child, n));
            }
            case 40 -> {
                int what = about(0, 4);
                int i = what == 2 || random.nextInt(9) == 0 ? child : 0;
                int t = about(0, random.nextBoolean() ? 8 : 200);
                same("tried(" + what + ", " + i + ", " + t + ")", garden.tried(what, i, t), model.tried(what, i, t));
            }
            case 41 -> same("undo()", garden.undo(), model.undo());
            case 42 -> same("keep()", garden.keep(), model.keep());
            default -> same("back()", garden.back(), model.back());
        }
    }
}
