import java.util.NoSuchElementException;

/** The bounds of promises 6 to 15 and of the SECONDS (Terms, part 2): the last that is taken, the first refused. */
public final class GardenBoundsTest {
    private static final int LEAST = Integer.MIN_VALUE;
    private static final int MOST = Integer.MAX_VALUE;
    private static final int OUT_OF_BOUNDS = -1001;
    private static final int NO_SUCH = -1002;
    private static final int ANOTHER = -1003;

    public static void main(String[] args) {
        cells();
        cellsOfOtherGardens();
        eggs();
        children();
        oddsAsked();
        oddsBounds();
        agesAtTheTree();
        lawsAsked();
        valueLimits();
        divisions();
        comparisons();
        manyOfHide();
        hiding();
        hidingUpToSixteen();
        taking();
        setting();
        ruling();
        going();
        theLastSecond();
        starts();
        paces();
        dogs();
        suns();
        lines();
        ownColors();
        luck();
        sixteenEggs();
        Check.end();
    }

    private static int cell(EggGarden g, int cell, int what) {
        try {
            return g.cell(cell, what);
        } catch (IndexOutOfBoundsException e) {
            return e.getClass() == IndexOutOfBoundsException.class ? OUT_OF_BOUNDS : ANOTHER;
        } catch (NoSuchElementException e) {
            return e.getClass() == NoSuchElementException.class ? NO_SUCH : ANOTHER;
        }
    }

    private static void cells() {
        for (int cell : new int[] {-1, 6, 7, 48, 49, LEAST, MOST}) {
            for (int what : new int[] {0, 3, 4, -1, LEAST, MOST}) {
                Trace.none("cell(" + cell + ", " + what + ")", g -> cell(g, cell, what), OUT_OF_BOUNDS);
            }
        }
        for (int what : new int[] {-1, 4, 5, LEAST, MOST}) {
            Trace.none("cell(0, " + what + ")", g -> cell(g, 0, what), NO_SUCH);
            Trace.none("cell(5, " + what + ")", g -> cell(g, 5, what), NO_SUCH);
        }
        Trace.none("cell(0, 0)", g -> cell(g, 0, 0), 0);
        Trace.none("cell(5, 0)", g -> cell(g, 5, 0), 3);
        Trace.none("cell(5, 3)", g -> cell(g, 5, 3), 1);
    }

    private static void cellsOfOtherGardens() {
        int[][] sizes = {{1, 1}, {8, 6}, {8, 1}, {1, 6}, {6, 5}, {2, 3}};
        EggGarden g = new EggGarden();
        for (int[] size : sizes) {
            int cells = size[0] * size[1];
            Check.tell(g, "garden " + size[0] + " " + size[1] + ";");
            Check.due("the last of " + cells, cell(g, cells - 1, 0), 0);
            Check.due("none of " + cells, cell(g, cells, 0), OUT_OF_BOUNDS);
            Check.due("none of " + cells, cell(g, -1, 0), OUT_OF_BOUNDS);
            Check.due("weight of the last of " + cells, g.weight(cells - 1), 1000);
            Check.due("weight of none of " + cells, g.weight(cells), EggGarden.NONE);
            Check.due("law of none of " + cells, g.law(2, cells, 0), Long.MIN_VALUE);
            Check.due("hide in none of " + cells, g.hide(cells, 0, 0), EggGarden.NONE);
            Check.due("hide in the last of " + cells, g.hide(cells - 1, 0, 0), 0);
        }
    }

    private static void eggs() {
        // The TEXT's three, one HIDDEN ahead of the IMAGE, one that can be undone: five.
        for (int egg : new int[] {-1, 5, 6, 16, LEAST, MOST}) {
            for (int what : new int[] {0, 3}) {
                Trace.none("egg(" + egg + ", " + what + ")", g -> g.egg(egg, what), -4);
            }
        }
        for (int what : new int[] {-1, 4, LEAST, MOST}) {
            Trace.none("egg(0, " + what + ")", g -> g.egg(0, what), -4);
            Trace.none("egg(4, " + what + ")", g -> g.egg(4, what), -4);
        }
        Trace.none("egg(4, 0)", g -> g.egg(4, 0), 5);
        EggGarden g = new EggGarden();
        Check.due("egg(0, 0) of none", g.egg(0, 0), -4);
        g.hide(7, 3, 9);
        Check.due("egg(0, 0)", g.egg(0, 0), 7);
        Check.due("egg(0, 3): -1 is HIDDEN", g.egg(0, 3), -1);
        Check.due("egg(1, 0)", g.egg(1, 0), -4);
        g.take();
        Check.due("egg(0, 0) taken back", g.egg(0, 0), -4);
        g.undo();
        Check.due("egg(0, 0) undone", g.egg(0, 0), 7);
        for (int i = 1; i < 16; i++) {
            g.hide(i, 0, 0);
        }
        Check.due("the sixteenth", g.egg(15, 0), 15);
        Check.due("a seventeenth", g.egg(16, 0), -4);
        EggGarden all = Check.garden("garden 3 1;bush 0 0;bush 2 0;egg red 0 0 0;egg red 1 0 0;egg red 2 0 9;dog 1;sun 9;"
                + "child a 0 0 9 0 0;child b 0 0 9 0 0;law see 100*(hard=0);seed 1;");
        all.go(200);
        Check.due("the first child's is 0", all.egg(0, 3), 0);
        Check.due("the dog's", all.egg(2, 3), -2);
        Check.due("melted or the dog's", all.egg(1, 3), all.count(9) == 1 ? -3 : -2);
        Check.due("where it was HIDDEN", all.egg(2, 0), 2);
    }

    private static void children() {
        for (int child : new int[] {-1, 2, 3, 4, LEAST, MOST}) {
            for (int what : new int[] {0, 4}) {
                Trace.none("child(" + child + ", " + what + ")", g -> g.child(child, what), EggGarden.NONE);
            }
        }
        for (int what : new int[] {-1, 5, LEAST, MOST}) {
            Trace.none("child(0, " + what + ")", g -> g.child(0, what), EggGarden.NONE);
            Trace.none("child(1, " + what + ")", g -> g.child(1, what), EggGarden.NONE);
        }
        EggGarden g = Check.garden("garden 1 1;child a 0 0 1 0 0;child b 0 0 1 0 99;child c 0 0 1 0 99;child d 0 0 1 0 0;");
        Check.due("the fourth", g.child(3, 0), 0);
        Check.due("a fifth", g.child(4, 0), EggGarden.NONE);
        for (int i = 0; i < 16; i++) {
            g.hide(0, i % 4, 0);
        }
        g.go(1);
        Check.due("all sixteen", g.child(0, 1), 16);
        Check.due("the bits of all", g.child(0, 2), 65535);
        Check.due("their worth", g.child(0, 4), 4 * 20 + 12 * 10);
        Check.due("none of them", g.child(3, 1), 0);
        Check.due("no bits", g.child(3, 2), 0);
        Check.due("no worth", g.child(3, 4), 0);
        Check.due("a look where all is gone is one", g.child(3, 3), 1);
        Check.due("unlike", g.count(15), 16);
    }

    private static void oddsAsked() {
        for (int child : new int[] {-1, 2, 4, LEAST, MOST}) {
            Trace.none("odds(" + child + ", 0)", g -> g.odds(child, 0), EggGarden.NONE);
            Trace.none("worth(" + child + ", 0)", g -> g.worth(child, 0), EggGarden.NONE);
        }
        for (int egg : new int[] {-1, 5, 16, LEAST, MOST}) {
            Trace.none("odds(0, " + egg + ")", g -> g.odds(0, egg), EggGarden.NONE);
            Trace.none("worth(0, " + egg + ")", g -> g.worth(0, egg), EggGarden.NONE);
        }
        Trace.none("odds(1, 4)", g -> g.odds(1, 4), 95 - 9 - 3 * Trace.busy().child(1, 1));
        Trace.none("worth(1, 4)", g -> g.worth(1, 4), 10);
        EggGarden none = Check.garden("child a 0 0 9 0 0;");
        Check.due("odds without eggs", none.odds(0, 0), EggGarden.NONE);
        EggGarden alone = Check.garden("egg red 0 0 0;");
        Check.due("odds without children", alone.odds(0, 0), EggGarden.NONE);
    }

    private static int oddsBy(String law) {
        return Check.garden("egg red 0 0 5;child a 0 0 9 0 0;law see " + law + ";").odds(0, 0);
    }

    private static void oddsBounds() {
        Check.due("0", oddsBy("0"), 0);
        Check.due("1", oddsBy("1"), 1);
        Check.due("-1 is 0", oddsBy("0-1"), 0);
        Check.due("far below is 0", oddsBy("0-9999*9999*9999"), 0);
        Check.due("99", oddsBy("99"), 99);
        Check.due("100", oddsBy("100"), 100);
        Check.due("101 is 100", oddsBy("101"), 100);
        Check.due("2 to the 32 is 100", oddsBy("4096*4096*256"), 100);
        Check.due("2 to the 32 below 0 is 0", oddsBy("0-4096*4096*256"), 0);
        Check.due("10 to the 12 is 100", oddsBy("1000*1000*1000*1000"), 100);
        Check.due("an ERROR: by HARD", oddsBy("1000*1000*1000*1000+1"), 50);
        Check.due("an ERROR: by HARD", oddsBy("0-1000*1000*1000*1000-1"), 50);
        Check.due("an ERROR: by HARD", oddsBy("5/0"), 50);
    }

    private static void agesAtTheTree() {
        StringBuilder text = new StringBuilder("garden 2 1;tree 1 0;child a 0 0 7 0 0;child b 0 0 8 0 0;");
        for (int hard = 0; hard < 10; hard++) {
            text.append("egg red 1 0 ").append(hard).append(';');
        }
        EggGarden g = Check.garden(text.toString());
        for (int hard = 0; hard < 10; hard++) {
            Check.due("AGE 7 in the tree, HARD " + hard, g.odds(0, hard), Math.max(0, 80 - 10 * hard));
            Check.due("AGE 8 in the tree, HARD " + hard, g.odds(1, hard), 100 - 10 * hard);
        }
        g.hide(0, 0, 9);
        Check.due("AGE 7 on grass, HARD 9", g.odds(0, 10), 10);
        for (int kind = 1; kind < 3; kind++) {
            EggGarden other = Check.garden((kind == 1 ? "bush" : "pot") + " 0 0;egg red 0 0 9;child a 0 0 1 0 0;");
            Check.due("AGE 1 in KIND " + kind, other.odds(0, 0), 10);
        }
    }

    private static void lawsAsked() {
        long none = Long.MIN_VALUE;
        for (int what : new int[] {-1, 4, 5, LEAST, MOST}) {
            Trace.none("law(" + what + ", 0, 0)", g -> g.law(what, 0, 0), none);
        }
        for (int what = 0; what < 2; what++) {
            int law = what;
            for (int child : new int[] {-1, 2, 4, LEAST, MOST}) {
                Trace.none("law(" + what + ", " + child + ", 0)", g -> g.law(law, child, 0), none);
            }
            for (int egg : new int[] {-1, 5, 16, LEAST, MOST}) {
                Trace.none("law(" + what + ", 0, " + egg + ")", g -> g.law(law, 0, egg), none);
            }
        }
        for (int cell : new int[] {-1, 6, 48, LEAST, MOST}) {
            Trace.none("law(2, " + cell + ", 0)", g -> g.law(2, cell, 0), none);
        }
        for (int egg : new int[] {-1, 5, 16, LEAST, MOST}) {
            Trace.none("law(3, " + egg + ", 0)", g -> g.law(3, egg, 0), none);
        }
        for (int other : new int[] {-1, 0, 99, LEAST, MOST}) {
            Trace.none("law(2, 5, " + other + ")", g -> g.law(2, 5, other), 5);
            Trace.none("law(3, 4, " + other + ")", g -> g.law(3, 4, other), 97);
        }
        String[] kinds = {"see", "joy", "hide", "keep"};
        for (int told = 0; told < 4; told++) {
            EggGarden g = Check.garden("egg red 0 0 0;child a 0 0 1 0 0;law " + kinds[told] + " 7;");
            for (int what = 0; what < 4; what++) {
                Check.due("law " + what + " where " + kinds[told] + " is told", g.law(what, 0, 0), what == told ? 7 : none);
            }
        }
    }

    private static void value(String e, long want) {
        EggGarden g = Check.garden("law hide " + e + ";");
        Check.due(e, g.law(2, 0, 0), want);
    }

    private static void valueLimits() {
        long error = Long.MIN_VALUE;
        String most = "1000*1000*1000*1000";
        value(most, 1000000000000L);
        value(most + "-0", 1000000000000L);
        value(most + "+1", error);
        value("1+" + most, error);
        value(most + "-(0-1)", error);
        value("(" + most + ")*1", 1000000000000L);
        value("(" + most + ")/1", 1000000000000L);
        value("(" + most + ")/(0-1)", -1000000000000L);
        value("(" + most + ")*(0-1)", -1000000000000L);
        value("0-" + most, -1000000000000L);
        value("0-" + most + "-1", error);
        value("0-1-" + most, error);
        value("(" + most + ")*2", error);
        value("(0-" + most + ")*2", error);
        value("(0-" + most + ")*(0-1)", 1000000000000L);
        value("(0-" + most + ")*(0-" + most + ")", error);
        value("(" + most + ")*0", 0);
        value("0*(0-" + most + ")", 0);
        // What goes beyond on the way is an ERROR, though it comes back.
        value(most + "+1-1", error);
        value("(" + most + "+1)*0", error);
        value("(" + most + "+1)/2", error);
        value("not(" + most + "+1)", error);
        value("1 or " + most + "+1", error);
        value("0 and " + most + "+1", error);
        value("1<" + most + "+1", error);
        // Products that a long would wrap around to something small.
        value("(" + most + ")*(4096*4096*4096)", error);
        value("(4096*4096*4096)*(4096*4096*4096)", error);
        value("(4096*4096*256)*(4096*4096*256)", error);
        value("9999*9999*9999", 999700029999L);
        value("9999*9999*9999*2", error);
        value("(1000*1000-1)*(1000*1000+1)", 999999999999L);
        value("(1000*1000+1)*(1000*1000)", error);
        value("(0-1000*1000-1)*(1000*1000)", error);
        value("(1000*1000)*(0-1000*1000-1)", error);
    }

    private static void divisions() {
        long error = Long.MIN_VALUE;
        value("7/0", error);
        value("0/0", error);
        value("7/(3-3)", error);
        value("(7/0)*0", error);
        value("1 or 7/0", error);
        value("7/0 or 1", error);
        value("0 and 7/0", error);
        value("not(7/0)", error);
        value("0/7", 0);
        value("7/8", 0);
        value("8/8", 1);
        value("(0-7)/8", 0);
        value("(0-9)/2", -4);
        value("9/(0-2)", -4);
        value("(0-9)/(0-2)", 4);
        value("0 and 5", 0);
        value("5 and 0", 0);
        value("1 and 1", 1);
        value("(0-1)and(0-1)", 1);
        value("(0-1)or 0", 1);
        value("not(0-1)", 0);
    }

    /** Each sign with less, as much and more; it binds looser than + and *, faster than not, and, or. */
    private static void comparisons() {
        String[] signs = {"<", "<=", "=", "<>", ">=", ">"};
        int[] less = {1, 1, 0, 1, 0, 0};
        int[] same = {0, 1, 1, 0, 1, 0};
        int[] more = {0, 0, 0, 1, 1, 1};
        for (int i = 0; i < signs.length; i++) {
            String sign = signs[i];
            value("2" + sign + "3", less[i]);
            value("2" + sign + "2", same[i]);
            value("3" + sign + "2", more[i]);
            value("3" + sign + "1+1", more[i]);
            value("1+1" + sign + "3", less[i]);
            value("2*3" + sign + "3*2", same[i]);
            value("9/3" + sign + "3-0", same[i]);
            value("not 2" + sign + "3", 1 - less[i]);
            value("not 2" + sign + "2", 1 - same[i]);
            value("not 3" + sign + "2", 1 - more[i]);
            value("0 or 2" + sign + "3", less[i]);
            value("2 and 3" + sign + "2", more[i]);
            value("2" + sign + "3 and 2" + sign + "3", less[i]);
        }
        value("2-1-1", 0);
        value("8/4/2", 1);
        value("8/4*2", 4);
        value("7*3/2", 10);
        value("7/2*3", 9);
        value("2+3*4-6/2", 11);
    }

    /** Of hide many is 0, whatever was asked ahead. */
    private static void manyOfHide() {
        EggGarden g = Check.garden("garden 1 1;egg red 0 0 0;egg red 0 0 0;child a 0 0 9 0 0;law see 100;law keep 50;"
                + "law hide age+hard+color+mine+many;");
        g.go(1);
        Check.due("it has two", g.child(0, 1), 2);
        Check.due("see", g.law(0, 0, 0), 100);
        Check.due("hide behind see", g.law(2, 0, 0), 0);
        Check.due("keep", g.law(3, 0, 0), 50);
        Check.due("hide behind keep", g.law(2, 0, 0), 0);
        Check.due("odds", g.odds(0, 1), 100);
        Check.due("hide behind odds", g.law(2, 0, 0), 0);
    }

    private static void hiding() {
        for (int cell : new int[] {-1, 6, 48, LEAST, MOST}) {
            Trace.none("hide(" + cell + ", 0, 0)", g -> g.hide(cell, 0, 0), EggGarden.NONE);
        }
        for (int color : new int[] {-1, 4, LEAST, MOST}) {
            Trace.none("hide(0, " + color + ", 0)", g -> g.hide(0, color, 0), EggGarden.NONE);
        }
        for (int hard : new int[] {-1, 10, LEAST, MOST}) {
            Trace.none("hide(0, 0, " + hard + ")", g -> g.hide(0, 0, hard), EggGarden.NONE);
        }
        EggGarden g = Check.garden("garden 3 2;");
        int number = 0;
        for (int cell : new int[] {0, 5}) {
            for (int color : new int[] {0, 3}) {
                for (int hard : new int[] {0, 9}) {
                    Check.due("hide", g.hide(cell, color, hard), number);
                    Check.due("its cell", g.egg(number, 0), cell);
                    Check.due("its color", g.egg(number, 1), color);
                    Check.due("its hard", g.egg(number, 2), hard);
                    Check.due("HIDDEN", g.egg(number, 3), -1);
                    number++;
                }
            }
        }
    }

    /** Twelve by the TEXT and four by call, or sixteen by call. */
    private static EggGarden full(int byText) {
        EggGarden g = Check.garden("garden 2 1;" + "egg red 0 0 0;".repeat(byText));
        for (int i = byText; i < 16; i++) {
            Check.due("hide", g.hide(1, 3, 9), i);
        }
        return g;
    }

    private static void hidingUpToSixteen() {
        for (int byText : new int[] {0, 1, 12}) {
            Trace.none("a seventeenth", full(byText), full(byText), g -> g.hide(0, 0, 0), EggGarden.NONE);
            EggGarden g = full(byText);
            Check.due("eggs", g.count(2), 16);
            Check.due("what can be undone", g.count(14), 16 - byText);
            Check.due("take", g.take(), true);
            Check.due("there is room again", g.hide(0, 0, 0), 15);
            Check.due("but for one", g.hide(0, 0, 0), EggGarden.NONE);
            for (int i = byText; i < 16; i++) {
                Check.due("take", g.take(), true);
            }
            Check.due("the TEXT's stay", g.take(), false);
            Check.due("eggs", g.count(2), byText);
        }
        // Those that were found, taken or melted count among the sixteen.
        EggGarden found = Check.garden("garden 1 1;child a 0 0 9 0 0;");
        for (int i = 0; i < 16; i++) {
            found.hide(0, 0, 0);
        }
        found.go(1);
        Check.due("all found", found.count(7), 16);
        Check.due("there are 16", found.hide(0, 0, 0), EggGarden.NONE);
    }

    private static void taking() {
        EggGarden none = new EggGarden();
        Trace.none("take of none", new EggGarden(), none, g -> g.take() ? 1 : 0, 0);
        String text = "garden 2 1;egg red 0 0 0;egg red 1 0 0;";
        Trace.none("take of the TEXT's", Check.garden(text), Check.garden(text), g -> g.take() ? 1 : 0, 0);
        Trace.none("take of one found", afterFinding(), afterFinding(), g -> g.take() ? 1 : 0, 0);
        EggGarden melted = Check.garden("garden 1 1;sun 0;");
        melted.hide(0, 0, 0);
        melted.go(1);
        Check.due("take of one melted", melted.take(), false);
        EggGarden dogs = Check.garden("garden 1 1;dog 1;");
        dogs.hide(0, 0, 0);
        dogs.go(2);
        Check.due("take of the dog's", dogs.take(), false);
        // A SECOND that went by does not matter if it is still HIDDEN.
        EggGarden g = Check.garden("garden 2 1;egg red 0 0 0;child a 0 0 9 0 0;");
        g.hide(1, 0, 0);
        g.go(1);
        Check.due("take behind a SECOND", g.take(), true);
        Check.due("eggs", g.count(2), 1);
        Check.due("take of the TEXT's", g.take(), false);
        // Behind back() those of the IMAGE are there.
        g.hide(1, 0, 0);
        g.keep();
        g.take();
        Check.due("none by call", g.take(), false);
        g.back();
        Check.due("that of the IMAGE", g.take(), true);
        Check.due("and no other", g.take(), false);
        // A TEXT makes its EGGS its own.
        g.hide(1, 0, 0);
        Check.tell(g, "egg red 0 0 0;");
        Check.due("take of the new TEXT's", g.take(), false);
    }

    /** The last one by call is found, the one ahead of it is not. */
    private static EggGarden afterFinding() {
        EggGarden g = Check.garden("garden 2 1;child a 0 0 9 0 0;");
        g.hide(1, 0, 0);
        g.hide(0, 0, 0);
        g.go(1);
        Check.due("found", g.egg(1, 3), 0);
        Check.due("HIDDEN", g.egg(0, 3), -1);
        return g;
    }

    private static void setting() {
        for (int child : new int[] {-1, 2, 4, LEAST, MOST}) {
            Trace.none("set(" + child + ", 0)", g -> g.set(child, 0) ? 1 : 0, 0);
        }
        for (int cell : new int[] {-1, 6, 48, LEAST, MOST}) {
            Trace.none("set(0, " + cell + ")", g -> g.set(0, cell) ? 1 : 0, 0);
        }
        Trace.none("set where it is", g -> g.set(0, 5) ? 1 : 0, 0);
        EggGarden g = Check.garden("garden 8 6;child a 0 0 9 1 0;child b 0 0 9 1 0;child c 0 0 9 1 0;child d 0 0 9 1 0;"
                + "rule behind;line 6;");
        Check.due("set(3, 47), beyond the line, too", g.set(3, 47), true);
        Check.due("where it is", g.child(3, 0), 47);
        Check.due("set(3, 0)", g.set(3, 0), true);
        Check.due("set(3, 0)", g.set(3, 0), false);
        Check.due("set(0, 48)", g.set(0, 48), false);
        Check.due("set(4, 47)", g.set(4, 47), false);
        Check.due("nobody looked", g.count(10), 0);
    }

    private static void ruling() {
        for (int rule : new int[] {-1, 3, 4, LEAST, MOST}) {
            Trace.none("rule(" + rule + ")", g -> g.rule(rule) ? 1 : 0, 0);
        }
        Trace.none("the rule that is", g -> g.rule(2) ? 1 : 0, 0);
        EggGarden g = new EggGarden();
        Check.due("rule(0) is so", g.rule(0), false);
        for (int rule : new int[] {1, 2, 0, 2, 1, 0}) {
            Check.due("rule(" + rule + ")", g.rule(rule), true);
            Check.due("count(11)", g.count(11), rule);
            Check.due("rule(" + rule + ") is so", g.rule(rule), false);
        }
        Check.due("what can be undone", g.count(14), 6);
    }

    private static void going() {
        for (int n : new int[] {-1, 201, 202, 9998, 10000, LEAST, MOST}) {
            Trace.none("go(" + n + ")", g -> g.go(n), EggGarden.NONE);
        }
        Trace.none("go(0)", g -> g.go(0), 2);
        EggGarden g = Check.garden("garden 1 1;child a 0 0 9 0 0;");
        Check.due("go(200)", g.go(200), 200);
        Check.due("looks", g.child(0, 3), 200);
        Check.due("go(1)", g.go(1), 201);
        Check.due("looks", g.child(0, 3), 201);
        Check.due("go(0)", g.go(0), 201);
        Check.due("looks", g.child(0, 3), 201);
    }

    private static EggGarden atSecond(int second) {
        EggGarden g = Check.garden("garden 1 1;egg red 0 0 9;child a 0 0 9 0 0;law see 0;seed 3;");
        while (g.count(5) + 200 <= second) {
            g.go(200);
        }
        g.go(second - g.count(5));
        g.rule(1);
        return g;
    }

    private static void theLastSecond() {
        Trace.none("go(200) at 9800", atSecond(9800), atSecond(9800), g -> g.go(200), EggGarden.NONE);
        Trace.none("go(2) at 9998", atSecond(9998), atSecond(9998), g -> g.go(2), EggGarden.NONE);
        Trace.none("go(1) at 9999", atSecond(9999), atSecond(9999), g -> g.go(1), EggGarden.NONE);
        Trace.none("go(0) at 9999", atSecond(9999), atSecond(9999), g -> g.go(0), 9999);
        Check.due("go(199) at 9800", atSecond(9800).go(199), 9999);
        Check.due("go(200) at 9799", atSecond(9799).go(200), 9999);
        Check.due("go(1) at 9998", atSecond(9998).go(1), 9999);
        EggGarden g = atSecond(9999);
        Check.due("looks", g.child(0, 3), 9999);
        Check.due("thoughts go on behind it", g.tears(0, 200), 0);
        Check.due("chance goes on behind it", g.chance(0, 200, 0, 0), 10);
        Check.due("keep", g.keep(), 9999);
        Check.due("back", g.back(), 9999);
        Check.due("a text", Check.tell(g, ""), 0);
        Check.due("SECOND 0", g.count(5), 0);
        Check.due("go(200)", g.go(200), 200);
    }

    private static void starts() {
        for (int start : new int[] {0, 1, 98, 99}) {
            EggGarden g = Check.garden("garden 2 1;egg red 0 0 0;child a 0 0 9 1 " + start + ";");
            Check.due("go", g.go(start), start);
            Check.due("START at " + start + ": not ahead of it", g.child(0, 3), 0);
            Check.due("it stays", g.child(0, 0), 0);
            g.go(1);
            Check.due("START at " + start + ": in this SECOND", g.child(0, 3), 1);
            Check.due("it finds", g.child(0, 1), 1);
            Check.due("and walks", g.child(0, 0), 1);
        }
    }

    private static void paces() {
        for (int pace = 0; pace < 4; pace++) {
            EggGarden g = Check.garden("garden 8 1;child a 0 0 9 " + pace + " 5;child b 1 0 9 0 0;child c 2 0 9 0 0;"
                    + "child d 3 0 9 0 0;");
            g.go(6);
            Check.due("PACE " + pace + " towards 4", g.child(0, 0), pace);
            g.go(1);
            Check.due("PACE " + pace + " it stops at 4", g.child(0, 0), Math.min(4, 2 * pace));
        }
        EggGarden done = Check.garden("garden 1 1;child a 0 0 9 3 0;");
        done.go(3);
        Check.due("none is left: it stays", done.child(0, 0), 0);
        EggGarden set = Check.garden("garden 3 1;child a 0 0 9 3 0;child b 0 0 9 0 0;");
        set.go(1);
        Check.due("where it stands is not LOOKED AT: it stays", set.child(0, 0), 1);
        Check.due("it is LOOKED AT in the next SECOND", set.cell(1, 2), 0);
        // Of several the first, though another is along x.
        EggGarden ties = Check.garden("garden 3 3;child a 1 1 9 1 0;");
        ties.go(1);
        Check.due("1, 3, 5, 7 are as near: the first", ties.child(0, 0), 1);
    }

    private static void dogs() {
        for (int every : new int[] {1, 2, 98, 99}) {
            EggGarden g = Check.garden("garden 1 1;egg red 0 0 0;egg red 0 0 0;egg red 0 0 0;dog " + every + ";");
            g.go(1);
            Check.due("not at SECOND 0", g.count(8), 0);
            g.go(every - 1);
            Check.due("not ahead of " + every, g.count(8), 0);
            g.go(1);
            Check.due("at SECOND " + every, g.count(8), 1);
            Check.due("the first", g.egg(0, 3), -2);
            g.go(every);
            Check.due("at twice that", g.count(8), 2);
            Check.due("then the next", g.egg(1, 3), -2);
            g.go(every);
            g.go(every);
            Check.due("no more than there are", g.count(8), 3);
        }
        // It comes to the last CELL, too, and takes none where none is.
        long number = 2;
        EggGarden g = Check.garden("garden 8 6;egg red 7 5 0;egg red 0 0 0;dog 1;seed 2;");
        boolean first = true;
        boolean last = true;
        for (int t = 0; t < 100; t++) {
            if (t > 0) {
                number = (number * 1103515245L + 12345L) & 0x7fffffffL;
                last &= number / 65536 % 48 != 47;
                first &= number / 65536 % 48 != 0;
            }
            g.go(1);
            Check.due("the last cell at " + t, g.egg(0, 3), last ? -1 : -2);
            Check.due("the first cell at " + t, g.egg(1, 3), first ? -1 : -2);
        }
        Check.due("it came to both", first || last, false);
    }

    private static void suns() {
        for (int sun : new int[] {0, 1, 200, 998, 999}) {
            EggGarden g = Check.garden("garden 4 1;bush 1 0;pot 2 0;tree 3 0;egg red 0 0 0;egg red 1 0 0;egg red 2 0 0;"
                    + "egg red 3 0 0;sun " + sun + ";");
            while (g.count(5) + 200 <= sun) {
                g.go(200);
            }
            g.go(sun - g.count(5));
            Check.due("not ahead of " + sun, g.count(9), 0);
            g.go(1);
            Check.due("at SECOND " + sun + " on grass alone", g.count(9), 1);
            Check.due("the one on grass", g.egg(0, 3), -3);
            g.hide(0, 0, 0);
            g.go(200);
            Check.due("only once", g.count(9), 1);
        }
    }

    private static void lines() {
        for (int line = 0; line <= 6; line++) {
            EggGarden g = Check.garden("garden 1 6;rule behind;line " + line + ";child a 0 5 8 3 0;child b 0 5 7 3 0;"
                    + "law see 0;");
            for (int y = 0; y < 6; y++) {
                g.set(0, y);
                boolean may = y >= line;
                Check.due("line " + line + ", AGE 8 at " + y, g.next(0), line == 6 ? EggGarden.NONE : may ? y : line);
            }
            g.set(0, 5);
            g.go(30);
            int least = line == 6 ? 5 : line;
            Check.due("line " + line + ": AGE 8 and 7 look at all that they may", g.count(10), 6);
            EggGarden big = Check.garden("garden 1 6;rule behind;line " + line + ";child a 0 5 8 3 0;child b 0 5 15 1 0;");
            big.go(30);
            Check.due("line " + line + ": AGES 8 and 15 alone", big.count(10), 6 - least);
            EggGarden free = Check.garden("garden 1 6;rule free;line " + line + ";child a 0 5 8 3 0;");
            free.go(30);
            Check.due("by rule 0 there is no line", free.count(10), 6);
            free.rule(1);
            Check.due("nor by rule 1", free.next(0) != EggGarden.NONE, true);
        }
    }

    private static void ownColors() {
        StringBuilder text = new StringBuilder("garden 1 1;rule own;");
        for (String color : new String[] {"red", "blue", "green", "gold"}) {
            text.append("egg ").append(color).append(" 0 0 0;egg ").append(color).append(" 0 0 0;");
        }
        text.append("child a 0 0 9 0 0;child b 0 0 9 0 0;child c 0 0 9 0 0;child d 0 0 9 0 0;");
        EggGarden g = Check.garden(text.toString());
        g.go(1);
        for (int e = 0; e < 8; e++) {
            Check.due("whose " + e, g.egg(e, 3), e / 2);
        }
        EggGarden free = Check.garden(text.toString());
        free.rule(2);
        free.go(1);
        Check.due("by rule 2 all are the first one's", free.child(0, 1), 8);
    }

    /** A number modulo 100 below ODDS: 0 is never enough, 100 always. */
    private static void luck() {
        EggGarden never = Check.garden("garden 1 1;egg red 0 0 0;child a 0 0 9 0 0;law see 0;");
        never.go(200);
        Check.due("ODDS 0", never.count(7), 0);
        long number = 0;
        for (int odds = 1; odds <= 100; odds += 33) {
            EggGarden g = Check.garden("garden 1 1;egg red 0 0 0;child a 0 0 9 0 0;seed 12345;law see " + odds + ";");
            number = 12345;
            boolean found = false;
            for (int t = 0; t < 60; t++) {
                if (!found) {
                    number = (number * 1103515245L + 12345L) & 0x7fffffffL;
                    found = number / 65536 % 100 < odds;
                }
                g.go(1);
                Check.due("ODDS " + odds + " at " + t, g.count(7), found ? 1 : 0);
            }
        }
        // SURE: 50 and more are 100, others 0.
        for (int odds : new int[] {0, 49, 50, 100}) {
            EggGarden g = Check.garden("garden 1 1;egg red 0 0 0;child a 0 0 9 0 0;law see " + odds + ";");
            Check.due("SURE by ODDS " + odds, g.tried(1, 0, 200), odds >= 50 ? 1 : 0);
            Check.due("SURE by ODDS " + odds, g.tried(1, 0, 1), odds >= 50 ? 1 : 0);
        }
    }

    /** All that goes through the EGGS goes through sixteen. */
    private static void sixteenEggs() {
        EggGarden g = Check.garden("garden 2 1;dog 1;sun 3;child a 0 0 9 0 99;child b 0 0 9 0 99;seed 6;");
        for (int i = 0; i < 15; i++) {
            g.hide(1, i % 4, 9);
        }
        g.hide(0, 3, 9);
        Check.due("HIDDEN at 1", g.cell(1, 1), 15);
        Check.due("HIDDEN at 0", g.cell(0, 1), 1);
        Check.due("nobody's", g.shared(15), -2);
        Check.due("no trade", g.trade(0), -2);
        long number = 6;
        int[] left = {1, 15};
        for (int t = 0; t < 3; t++) {
            if (t > 0) {
                number = (number * 1103515245L + 12345L) & 0x7fffffffL;
                int cell = (int) (number / 65536 % 2);
                left[cell] -= left[cell] > 0 ? 1 : 0;
            }
            g.go(1);
            Check.due("HIDDEN at 0", g.cell(0, 1), left[0]);
            Check.due("HIDDEN at 1", g.cell(1, 1), left[1]);
        }
        g.go(5);
        Check.due("all are gone", g.count(8) + g.count(9), 16);
        Check.due("the last is gone", g.egg(15, 3) < -1, true);
        EggGarden far = Check.garden("garden 2 1;dog 1;");
        for (int i = 0; i < 16; i++) {
            far.hide(0, 0, 0);
        }
        far.go(200);
        Check.due("the dog took all and came again", far.count(8), 16);
    }
}
