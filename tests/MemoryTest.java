/** Promises 30 to 39: see, strike, known, starts, chance, tried, undo, keep, back, count. */
public final class MemoryTest {
    private static final int ALL = 0x7fffffff;

    public static void main(String[] args) {
        seeing();
        striking();
        knowing();
        starting();
        chances();
        trying();
        undoing();
        undoingAtMostTwenty();
        images();
        counting();
        Check.end();
    }

    private static final String TWO = "garden 3 1;egg red 0 0 0;egg blue 1 0 5;egg green 2 0 9;child a 0 0 5 1 0;"
            + "child b 2 0 10 1 2;";

    private static void seeing() {
        EggGarden g = Check.garden(TWO);
        Check.due("see(0, ..)", g.see(0, 0, 1, true), EggGarden.NONE);
        Check.due("see(201, ..)", g.see(201, 0, 1, true), EggGarden.NONE);
        Check.due("see of no child", g.see(1, 2, 1, true), EggGarden.NONE);
        Check.due("see of no child", g.see(1, -1, 1, true), EggGarden.NONE);
        Check.due("see of -1 eggs", g.see(1, 0, -1, true), EggGarden.NONE);
        Check.due("see of 17 eggs", g.see(1, 0, 17, true), EggGarden.NONE);
        Check.due("nothing seen", g.count(12), 0);
        Check.due("the first", g.see(1, 0, 0, true), 0);
        Check.due("the second", g.see(200, 1, 16, false), 1);
        for (int i = 2; i < 24; i++) {
            Check.due("see " + i, i % 2 == 0 ? g.see(i, 0, 0, true) : g.strike(0), i);
        }
        Check.due("a 25th", g.see(1, 0, 0, true), EggGarden.NONE);
        Check.due("a 25th", g.strike(0), EggGarden.NONE);
        Check.due("seen", g.count(12), 24);
    }

    private static void striking() {
        EggGarden g = Check.garden(TWO);
        Check.due("strike of nothing", g.strike(0), EggGarden.NONE);
        g.see(2, 0, 2, true);
        Check.due("starts of a", g.starts(0), 1);
        Check.due("strike(1)", g.strike(1), EggGarden.NONE);
        Check.due("strike(-1)", g.strike(-1), EggGarden.NONE);
        Check.due("strike(0)", g.strike(0), 1);
        Check.due("struck", g.starts(0), ALL);
        Check.due("strike(1)", g.strike(1), 2);
        Check.due("the strike is struck", g.starts(0), 1);
        Check.due("strike(2)", g.strike(2), 3);
        Check.due("and that one again", g.starts(0), ALL);
        Check.due("strike of it once more", g.strike(0), 4);
        Check.due("strike(3)", g.strike(3), 5);
        Check.due("one strike is left", g.starts(0), ALL);
        Check.due("strike(4)", g.strike(4), 6);
        Check.due("none is left", g.starts(0), 1);
    }

    private static void knowing() {
        EggGarden g = Check.garden(TWO);
        Check.due("known(1) of nothing", g.known(1), false);
        Check.due("known(0) of nothing", g.known(0), true);
        Check.due("by none", g.count(13), 0);
        g.see(2, 0, 2, true);
        g.see(2, 0, 2, false);
        g.strike(1);
        g.strike(0);
        Check.due("still by none", g.count(13), 0);
        Check.due("starts by none", g.starts(0), ALL);
        Check.due("known(1)", g.known(1), true);
        Check.due("starts by one", g.starts(0), 1);
        Check.due("known(2)", g.known(2), true);
        Check.due("starts by two", g.starts(0), 0);
        Check.due("known(3)", g.known(3), true);
        Check.due("starts by three", g.starts(0), 1);
        Check.due("known(4)", g.known(4), true);
        Check.due("starts by four", g.starts(0), ALL);
        Check.due("known(5)", g.known(5), false);
        Check.due("known(-2)", g.known(-2), false);
        Check.due("by four", g.count(13), 4);
        g.see(2, 0, 2, true);
        Check.due("not by those to come", g.starts(0), ALL);
        Check.due("known(-1)", g.known(-1), true);
        Check.due("by all", g.count(13), 5);
        Check.due("starts by all", g.starts(0), 1);
        g.see(2, 0, 2, false);
        Check.due("by those to come", g.starts(0), 0);
        Check.due("by all", g.count(13), 6);
    }

    private static void starting() {
        EggGarden g = Check.garden(TWO);
        Check.due("nothing seen", g.starts(0), ALL);
        Check.due("starts(2)", g.starts(2), EggGarden.NONE);
        Check.due("starts(-1)", g.starts(-1), EggGarden.NONE);
        g.see(10, 0, 1, true);
        // b is at red in second 4, and a comes first by its number.
        Check.due("in ten seconds a had one", g.starts(0), 31);
        g.see(3, 0, 1, false);
        Check.due("but not within three", g.starts(0), 31 - 7);
        g.go(7);
        g.rule(1);
        g.set(0, 2);
        g.hide(0, 0, 0);
        Check.due("from the TEXT on, whatever came", g.starts(0), 31 - 7);
        Check.due("a's own start stands for b: it is no", g.starts(1), 0);
        EggGarden both = Check.garden(TWO);
        both.see(3, 1, 1, true);
        Check.due("b finds blue if it comes first", both.starts(1), 0);
        Check.due("and if a starts late", both.starts(0) & 1, 0);
        EggGarden late = Check.garden("garden 1 1;egg red 0 0 0;child a 0 0 5 1 50;");
        late.see(200, 0, 1, true);
        Check.due("in place of its own", late.starts(0), ALL);
        late.see(30, 0, 1, true);
        Check.due("within 30", late.starts(0), ALL - (1 << 30));
    }

    private static void chances() {
        EggGarden sure = Check.garden("garden 1 1;egg red 0 0 0;child a 0 0 5 1 0;child b 0 0 5 1 1;");
        Check.due("always", sure.chance(1, 1, 0, 1), 10);
        Check.due("never", sure.chance(1, 1, 0, 2), 0);
        Check.due("0 eggs", sure.chance(1, 1, 1, 0), 10);
        Check.due("none for b", sure.chance(1, 200, 1, 1), 0);
        int[][] wrong = {{-1, 1, 0, 0}, {0, 0, 0, 0}, {0, 201, 0, 0}, {0, 1, 2, 0}, {0, 1, -1, 0}, {0, 1, 0, -1},
            {0, 1, 0, 17}};
        for (int[] w : wrong) {
            Check.due("chance of none such", sure.chance(w[0], w[1], w[2], w[3]), EggGarden.NONE);
        }
        Check.due("the greatest seed", sure.chance(Integer.MAX_VALUE, 200, 0, 16), 0);
        EggGarden g = Check.garden("garden 1 1;egg red 0 0 5;egg red 0 0 7;child a 0 0 5 1 0;seed 1;");
        for (int seed = 0; seed < 50; seed++) {
            long number = seed * 7919L;
            int lucky = 0;
            for (int morning = 0; morning < 10; morning++) {
                boolean one = false;
                boolean two = false;
                for (int t = 0; t < 2; t++) {
                    if (!one) {
                        number = (number * 1103515245L + 12345L) & 0x7fffffffL;
                        one = number / 65536 % 100 < 50;
                    }
                    if (!two) {
                        number = (number * 1103515245L + 12345L) & 0x7fffffffL;
                        two = number / 65536 % 100 < 30;
                    }
                }
                lucky += one && two ? 1 : 0;
            }
            Check.due("chance by seed " + seed, g.chance(seed * 7919, 2, 0, 2), lucky);
        }
        EggGarden dog = Check.garden("garden 1 1;egg red 0 0 0;child a 0 0 5 1 2;dog 1;");
        Check.due("the dog is there, too", dog.chance(1, 9, 0, 1), 0);
    }

    private static void trying() {
        EggGarden g = Check.garden("garden 4 1;tree 0 0;egg red 0 0 4;egg red 1 0 0;egg red 2 0 0;egg red 3 0 0;"
                + "child a 0 0 7 1 0;child b 3 0 9 0 5;sun 2;");
        Check.due("a finds 1, 2 till the sun; 3 melts", g.tears(0, 20), 2);
        Check.due("0: a is 11 and finds the one in the tree", g.tried(0, 0, 20), 3);
        Check.due("1: no sun", g.tried(1, 0, 20), 3);
        Check.due("2: a isn't there", g.tried(2, 0, 20), 0);
        Check.due("2: b isn't there", g.tried(2, 1, 20), 2);
        Check.due("3: b starts at once", g.tried(3, 0, 20), 3);
        Check.due("4: nobody walks", g.tried(4, 0, 20), 0);
        Check.due("T 0", g.tried(3, 0, 0), 0);
        Check.due("T 200", g.tried(3, 0, 200), 3);
        Check.due("T 201", g.tried(3, 0, 201), EggGarden.NONE);
        Check.due("T -1", g.tried(3, 0, -1), EggGarden.NONE);
        Check.due("what 5", g.tried(5, 0, 1), EggGarden.NONE);
        Check.due("what -1", g.tried(-1, 0, 1), EggGarden.NONE);
        Check.due("i 1 of 0", g.tried(0, 1, 1), EggGarden.NONE);
        Check.due("i 1 of 4", g.tried(4, 1, 1), EggGarden.NONE);
        Check.due("i 2 of 2", g.tried(2, 2, 1), EggGarden.NONE);
        Check.due("i -1 of 2", g.tried(2, -1, 1), EggGarden.NONE);
        Check.due("i 0 of 2 without children", new EggGarden().tried(2, 0, 1), EggGarden.NONE);
        g.go(2);
        int found = g.count(7);
        Check.due("from now on", g.tried(2, 0, 0), found);
        EggGarden line = Check.garden("garden 1 2;egg red 0 0 0;line 1;rule behind;child a 0 1 5 1 0;");
        Check.due("11 is big by the rule, too", line.tried(0, 0, 9), 0);
        Check.due("else it goes there", line.tried(1, 0, 9), 1);
    }

    private static void undoing() {
        EggGarden g = Check.garden("garden 3 1;egg red 0 0 9;child a 0 0 5 0 0;");
        Check.due("nothing", g.undo(), EggGarden.NONE);
        g.hide(1, 2, 3);
        g.hide(2, 3, 4);
        g.set(0, 2);
        g.rule(2);
        g.take();
        g.rule(1);
        g.set(0, 1);
        Check.due("to be undone", g.count(14), 7);
        Check.due("set", g.undo(), 6);
        Check.due("a is where it was", g.child(0, 0), 2);
        Check.due("rule", g.undo(), 5);
        Check.due("rule as it was", g.count(11), 2);
        Check.due("take", g.undo(), 4);
        Check.due("eggs", g.count(2), 3);
        Check.due("its cell", g.egg(2, 0), 2);
        Check.due("its color", g.egg(2, 1), 3);
        Check.due("its hard", g.egg(2, 2), 4);
        Check.due("whose", g.egg(2, 3), -1);
        Check.due("rule", g.undo(), 3);
        Check.due("rule as it was", g.count(11), 0);
        Check.due("set", g.undo(), 2);
        Check.due("a is where it was", g.child(0, 0), 0);
        Check.due("hide", g.undo(), 1);
        Check.due("eggs", g.count(2), 2);
        Check.due("go(0)", g.go(0), 0);
        Check.due("no SECOND went by", g.count(14), 1);
        Check.due("go(-1)", g.go(-1), EggGarden.NONE);
        Check.due("keep", g.keep(), 0);
        Check.due("hide", g.undo(), 0);
        Check.due("eggs", g.count(2), 1);
        Check.due("nothing", g.undo(), EggGarden.NONE);
        g.hide(1, 0, 0);
        g.go(1);
        Check.due("a SECOND went by", g.undo(), EggGarden.NONE);
        Check.due("eggs stay", g.count(2), 2);
        g.rule(1);
        g.back();
        Check.due("nothing to undo behind back", g.undo(), EggGarden.NONE);
    }

    private static void undoingAtMostTwenty() {
        EggGarden g = Check.garden("garden 8 6;child a 0 0 5 0 0;");
        for (int i = 1; i <= 25; i++) {
            g.set(0, i);
            Check.due("to be undone", g.count(14), Math.min(i, 20));
        }
        for (int i = 19; i >= 0; i--) {
            Check.due("left", g.undo(), i);
        }
        Check.due("none", g.undo(), EggGarden.NONE);
        Check.due("the oldest five stay", g.child(0, 0), 5);
    }

    private static void images() {
        EggGarden g = Check.garden("garden 4 1;egg red 0 0 5;egg red 1 0 5;egg red 2 0 5;egg red 3 0 5;"
                + "child a 0 0 9 1 0;dog 2;sun 9;seed 3;");
        Check.due("no image", g.back(), EggGarden.NONE);
        g.go(1);
        g.hide(3, 1, 1);
        g.rule(1);
        Check.due("keep", g.keep(), 1);
        int[] then = state(g);
        g.see(3, 0, 1, true);
        g.go(3);
        int[] later = state(g);
        g.take();
        g.rule(2);
        g.set(0, 0);
        g.hide(0, 0, 0);
        Check.due("back", g.back(), 1);
        same("as in the image", state(g), then);
        Check.due("what was seen stays", g.count(12), 1);
        Check.due("nothing to undo", g.count(14), 0);
        Check.due("the egg by call is there", g.take(), true);
        Check.due("undone", g.undo(), 0);
        g.go(3);
        same("the same numbers come", state(g), later);
        Check.due("back again", g.back(), 1);
        g.go(2);
        Check.due("keep in place of it", g.keep(), 3);
        g.go(2);
        Check.due("back to that", g.back(), 3);
        Check.due("a fault", Check.tell(g, "sun"), EggGarden.NONE);
        Check.due("the image stays", g.back(), 3);
        Check.due("a text", Check.tell(g, ""), 0);
        Check.due("no image", g.back(), EggGarden.NONE);
    }

    private static int[] state(EggGarden g) {
        int[] all = new int[100];
        int at = 0;
        for (int what = 0; what < 12; what++) {
            all[at++] = g.count(what);
        }
        for (int e = 0; e < 6; e++) {
            for (int what = 0; what < 4; what++) {
                all[at++] = g.egg(e, what);
            }
        }
        for (int what = 0; what < 5; what++) {
            all[at++] = g.child(0, what);
        }
        for (int cell = 0; cell < 4; cell++) {
            all[at++] = g.weight(cell);
            for (int what = 0; what < 4; what++) {
                all[at++] = g.cell(cell, what);
            }
        }
        return all;
    }

    private static void same(String what, int[] got, int[] want) {
        for (int i = 0; i < want.length; i++) {
            Check.due(what + ", " + i, got[i], want[i]);
        }
    }

    private static void counting() {
        EggGarden g = Check.garden("garden 4 2;bush 3 1;egg red 0 0 0;egg red 1 0 0;egg red 3 0 9;egg red 3 1 9;"
                + "child a 0 0 9 1 0;child b 3 1 9 0 99;line 1;rule own;law keep 1 + 2 * (3);sun 2;");
        g.go(3);
        g.see(1, 0, 0, true);
        g.hide(0, 0, 0);
        int[] want = {4, 2, 5, 2, 5, 3, 2, 2, 0, 1, 3, 1, 1, 1, 1, 2};
        for (int what = 0; what < want.length; what++) {
            Check.due("count(" + what + ")", g.count(what), want[what]);
        }
        Check.due("count(16)", g.count(16), EggGarden.NONE);
        Check.due("count(-1)", g.count(-1), EggGarden.NONE);
        EggGarden dog = Check.garden("garden 1 1;egg red 0 0 0;dog 1;");
        dog.go(2);
        Check.due("the dog's", dog.count(8), 1);
        Check.due("unlike without children", dog.count(15), 0);
    }
}
