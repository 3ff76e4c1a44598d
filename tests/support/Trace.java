import java.util.ArrayList;
import java.util.List;
import java.util.function.ToLongFunction;

/** Whether a call leaves a trace: all that an object tells behind it is compared with what a twin tells without it. */
final class Trace {
    /** Laws that look at all, a dog, a sun and numbers: what a call changed by mistake would be seen. */
    static final String TEXT = "garden 3 2;bush 1 0;tree 2 1;egg red 1 0 2;egg blue 2 1 5;egg gold 0 1 7;"
            + "child ann 0 0 7 1 0;child bo 2 1 9 1 1;rule own;line 1;dog 4;sun 7;seed 5;"
            + "law see 95-hard*9-many*3;law joy 5+mine*4+color;law hide 2+kind;law keep 99-many;";

    private static List<Long> untouched;

    private Trace() {
    }

    /** An object with something of all: SECONDS gone by, an IMAGE, what was SEEN, a FAULT, what can be undone, a TAPE. */
    static EggGarden busy() {
        EggGarden g = new EggGarden();
        Check.tell(g, TEXT);
        g.go(1);
        g.hide(4, 2, 0);
        g.keep();
        g.go(1);
        g.see(3, 0, 1, true);
        g.see(9, 1, 1, false);
        g.strike(1);
        g.known(2);
        Check.tell(g, "rule own;rule own;");
        g.hide(5, 1, 1);
        g.set(0, 5);
        g.rule(2);
        g.hide(3, 3, 3);
        g.take();
        Check.feed(g, "sun 3;");
        return g;
    }

    /** The call answers so, and all is then as if it had not been made. */
    static void none(String call, ToLongFunction<EggGarden> asked, long want) {
        if (untouched == null) {
            untouched = all(busy());
        }
        EggGarden g = busy();
        Check.due(call, asked.applyAsLong(g), want);
        compare(call, all(g), untouched);
    }

    /** The same for an object of the caller's own, made twice. */
    static void none(String call, EggGarden g, EggGarden twin, ToLongFunction<EggGarden> asked, long want) {
        Check.due(call, asked.applyAsLong(g), want);
        compare(call, all(g), all(twin));
    }

    private static void compare(String call, List<Long> got, List<Long> want) {
        boolean same = got.equals(want);
        Check.due(call + " leaves no trace" + (same ? "" : ": " + got + " in place of " + want), same, true);
    }

    /** All that an object tells; it is used up by that (some 350 calls with a garden of 6 CELLS). */
    static List<Long> all(EggGarden g) {
        List<Long> told = new ArrayList<>();
        told.add((long) g.fault(0));
        told.add((long) g.fault(1));
        told.addAll(state(g));
        told.add((long) g.feed(0x20202020, 0x20202020, 0x20202020, 0x20202020, 0x20202020));
        told.add((long) g.text(20));
        told.add((long) g.fault(0));
        told.add((long) g.fault(1));
        return told;
    }

    /** The same without FAULT and TAPE. */
    static List<Long> state(EggGarden g) {
        List<Long> told = new ArrayList<>();
        surface(g, told);
        for (int child = 0; child < g.count(3); child++) {
            told.add((long) g.starts(child));
        }
        told.add(g.known(-1) ? 1L : 0L);
        for (int child = 0; child < g.count(3); child++) {
            told.add((long) g.starts(child));
        }
        int left = g.count(14);
        for (int i = 0; i <= left; i++) {
            told.add((long) g.undo());
            told.add((long) g.count(2));
            told.add((long) g.count(11));
            told.add((long) g.child(0, 0));
        }
        told.add((long) g.go(3));
        surface(g, told);
        told.add((long) g.back());
        surface(g, told);
        return told;
    }

    private static void surface(EggGarden g, List<Long> told) {
        for (int what = 0; what < 16; what++) {
            told.add((long) g.count(what));
        }
        int cells = Math.min(6, g.count(0) * g.count(1));
        for (int cell = 0; cell < cells; cell++) {
            told.add((long) g.weight(cell));
            for (int what = 0; what < 4; what++) {
                told.add((long) g.cell(cell, what));
            }
        }
        for (int egg = 0; egg < g.count(2); egg++) {
            for (int what = 0; what < 4; what++) {
                told.add((long) g.egg(egg, what));
            }
        }
        for (int child = 0; child < g.count(3); child++) {
            for (int what = 0; what < 5; what++) {
                told.add((long) g.child(child, what));
            }
        }
    }
}
