/** The bounds of promises 30 to 39 (Terms, parts 3 and 4): the last that is taken, the first that is refused. */
public final class MemoryBoundsTest {
    private static final int LEAST = Integer.MIN_VALUE;
    private static final int MOST = Integer.MAX_VALUE;
    /** SECONDS 0 to 30, a bit each. */
    private static final int ALL = 0x7fffffff;

    public static void main(String[] args) {
        seeingAsked();
        seenAtMost();
        seeingManyEggs();
        seeingLateSeconds();
        strikingAsked();
        strikesOfStrikes();
        knowingAsked();
        knowingByN();
        startingAsked();
        startingBits();
        startingFromTheText();
        chancesAsked();
        chancesOfAllAndNone();
        chancesByNumbers();
        triedAsked();
        triedOfNone();
        triedAtTheEdges();
        undoingAsked();
        undoingAtMostTwenty();
        undoingOfEach();
        undoingOfMany();
        undoingBehindSeconds();
        keeping();
        goingBack();
        counting();
        countingBounds();
        Check.end();
    }

    private static void seeingAsked() {
        for (int seconds : new int[] {-1, 0, 201, LEAST, MOST}) {
            Trace.none("see(" + seconds + ", ..)", g -> g.see(seconds, 0, 0, true), EggGarden.NONE);
            Trace.none("see(" + seconds + ", ..)", g -> g.see(seconds, 0, 0, false), EggGarden.NONE);
        }
        for (int child : new int[] {-1, 2, 4, LEAST, MOST}) {
            Trace.none("see of child " + child, g -> g.see(1, child, 0, true), EggGarden.NONE);
        }
        for (int many : new int[] {-1, 17, LEAST, MOST}) {
            Trace.none("see of " + many + " eggs", g -> g.see(1, 0, many, true), EggGarden.NONE);
            Trace.none("see of " + many + " eggs", g -> g.see(1, 0, many, false), EggGarden.NONE);
        }
        EggGarden g = Trace.busy();
        Check.due("see(1, 0, 0, true)", g.see(1, 0, 0, true), 3);
        Check.due("see(200, 1, 16, false)", g.see(200, 1, 16, false), 4);
        Check.due("seen", g.count(12), 5);
        Check.due("no CHILDREN", new EggGarden().see(1, 0, 0, true), EggGarden.NONE);
    }

    private static EggGarden seen(int many) {
        EggGarden g = Check.garden("garden 1 1;egg red 0 0 0;child a 0 0 9 0 0;");
        for (int i = 0; i < many; i++) {
            Check.due("SEEN " + i, i % 2 == 0 ? g.see(i + 1, 0, 1, true) : g.strike(i - 1), i);
        }
        return g;
    }

    private static void seenAtMost() {
        Check.due("the 24th", seen(23).see(1, 0, 0, true), 23);
        Check.due("the 24th", seen(23).strike(22), 23);
        Check.due("24", seen(24).count(12), 24);
        Trace.none("a 25th", seen(24), seen(24), g -> g.see(1, 0, 1, false), EggGarden.NONE);
        Trace.none("a 25th STRIKE", seen(24), seen(24), g -> g.strike(23), EggGarden.NONE);
        Trace.none("a 25th STRIKE", seen(24), seen(24), g -> g.strike(0), EggGarden.NONE);
        EggGarden g = seen(24);
        Check.due("known by 24", g.known(24), true);
        Check.due("by how many", g.count(13), 24);
        Check.due("known by 25", g.known(25), false);
        Check.tell(g, "child a 0 0 9 0 0;");
        Check.due("a TEXT forgets them", g.count(12), 0);
        Check.due("and numbers anew", g.see(1, 0, 0, true), 0);
    }

    private static void seeingManyEggs() {
        EggGarden g = Check.garden("garden 1 1;child a 0 0 9 0 0;" + "egg red 0 0 0;".repeat(12));
        g.see(1, 0, 0, true);
        Check.due("0 and more at any time", g.starts(0), ALL);
        g.see(200, 0, 16, false);
        Check.due("fewer than 16 at any time", g.starts(0), ALL);
        g.see(1, 0, 12, true);
        Check.due("12 and more", g.starts(0), 1);
        g.see(1, 0, 13, false);
        Check.due("fewer than 13", g.starts(0), 1);
        g.see(1, 0, 12, false);
        Check.due("fewer than 12", g.starts(0), 0);
        g.strike(4);
        Check.due("that one is STRUCK", g.starts(0), 1);
        g.see(1, 0, 13, true);
        Check.due("13 and more", g.starts(0), 0);
        g.strike(6);
        g.see(1, 0, 0, false);
        Check.due("fewer than 0 is never so", g.starts(0), 0);
        g.strike(8);
        g.see(200, 0, 16, true);
        Check.due("16 and more: the TEXT has 12", g.starts(0), 0);
    }

    private static void seeingLateSeconds() {
        // In the SECOND s of its START it finds: behind s and 1, not behind s.
        for (int seconds : new int[] {1, 2, 30, 31, 32, 200}) {
            EggGarden g = Check.garden("garden 1 1;egg red 0 0 0;child a 0 0 9 0 99;");
            g.see(seconds, 0, 1, true);
            int want = seconds > 30 ? ALL : (1 << seconds) - 1;
            Check.due("one behind " + seconds, g.starts(0), want);
            EggGarden none = Check.garden("garden 1 1;egg red 0 0 0;child a 0 0 9 0 99;");
            none.see(seconds, 0, 1, false);
            Check.due("none behind " + seconds, none.starts(0), ALL & ~want);
        }
    }

    private static void strikingAsked() {
        for (int seen : new int[] {-1, 3, 4, 24, LEAST, MOST}) {
            Trace.none("strike(" + seen + ")", g -> g.strike(seen), EggGarden.NONE);
        }
        Check.due("nothing SEEN", new EggGarden().strike(0), EggGarden.NONE);
        EggGarden g = Trace.busy();
        Check.due("strike(2), a STRIKE", g.strike(2), 3);
        Check.due("strike(3), itself there now", g.strike(3), 4);
        Check.due("strike(5), it would be itself", g.strike(5), EggGarden.NONE);
        Check.due("strike(0)", g.strike(0), 5);
        Check.due("strike(0) again", g.strike(0), 6);
        Check.due("seen", g.count(12), 7);
    }

    /** A chain in which each STRIKES the one ahead: it counts if there is an even number of them. */
    private static void strikesOfStrikes() {
        EggGarden g = Check.garden("garden 1 1;egg red 0 0 0;child a 0 0 9 0 0;");
        g.see(1, 0, 1, true);
        for (int i = 0; i < 23; i++) {
            Check.due("by " + i + " STRIKES", g.starts(0), i % 2 == 0 ? 1 : ALL);
            Check.due("strike(" + i + ")", g.strike(i), i + 1);
        }
        Check.due("by 23 STRIKES", g.starts(0), ALL);
        for (int n = 0; n <= 24; n++) {
            Check.due("known(" + n + ")", g.known(n), true);
            Check.due("by the first " + n, g.starts(0), n % 2 == 1 ? 1 : ALL);
        }
    }

    private static void knowingAsked() {
        for (int n : new int[] {-2, -3, 4, 5, 24, 25, LEAST, MOST}) {
            Trace.none("known(" + n + ")", g -> g.known(n) ? 1 : 0, 0);
        }
        Trace.none("known(2) as it is", g -> g.known(2) ? 1 : 0, 1);
        EggGarden g = Trace.busy();
        for (int n = 0; n <= 3; n++) {
            Check.due("known(" + n + ")", g.known(n), true);
            Check.due("by how many", g.count(13), n);
        }
        EggGarden none = new EggGarden();
        Check.due("known(0) of none", none.known(0), true);
        Check.due("known(-1) of none", none.known(-1), true);
        Check.due("known(1) of none", none.known(1), false);
        Check.due("by none", none.count(13), 0);
    }

    private static void knowingByN() {
        EggGarden g = Check.garden("garden 1 1;egg red 0 0 0;child a 0 0 9 0 0;");
        Check.due("all at first", g.starts(0), ALL);
        g.see(2, 0, 1, true);
        Check.due("all at first, also those to come", g.starts(0), 3);
        Check.due("by none", g.known(0), true);
        Check.due("by none", g.starts(0), ALL);
        g.see(1, 0, 1, true);
        Check.due("by none, not those to come", g.starts(0), ALL);
        Check.due("by one", g.known(1), true);
        Check.due("by one", g.starts(0), 3);
        Check.due("by two", g.known(2), true);
        Check.due("by two", g.starts(0), 1);
        g.strike(1);
        Check.due("by two: the STRIKE isn't one of these", g.starts(0), 1);
        Check.due("by three", g.known(3), true);
        Check.due("by three", g.starts(0), 3);
        g.strike(0);
        Check.due("by three still", g.starts(0), 3);
        Check.due("by all", g.known(-1), true);
        Check.due("by all", g.starts(0), ALL);
        g.strike(3);
        Check.due("by all, also those to come", g.starts(0), 3);
        Check.due("no such n", g.known(6), false);
        Check.due("by all still", g.count(13), 5);
        Check.tell(g, "garden 1 1;egg red 0 0 0;child a 0 0 9 0 0;");
        g.see(1, 0, 1, true);
        Check.due("behind a TEXT all are KNOWN", g.starts(0), 1);
    }

    private static void startingAsked() {
        for (int child : new int[] {-1, 2, 4, LEAST, MOST}) {
            Trace.none("starts(" + child + ")", g -> g.starts(child), EggGarden.NONE);
        }
        Trace.none("starts(1)", g -> g.starts(1) >= 0 ? 1 : 0, 1);
        Check.due("no CHILDREN", new EggGarden().starts(0), EggGarden.NONE);
        EggGarden g = Check.garden("child a 0 0 9 0 0;child b 0 0 9 0 0;child c 0 0 9 0 0;child d 0 0 9 0 0;");
        Check.due("starts(3)", g.starts(3), ALL);
        Check.due("starts(4)", g.starts(4), EggGarden.NONE);
    }

    private static void startingBits() {
        // It takes what the other one, who comes at its own START, would take.
        for (int start : new int[] {0, 1, 15, 29, 30, 31, 99}) {
            EggGarden g = Check.garden("garden 1 1;egg red 0 0 0;child a 0 0 9 0 " + start + ";child b 0 0 9 0 99;");
            g.see(200, 1, 1, true);
            Check.due("b ahead of a at " + start, g.starts(1), start > 30 ? ALL : (1 << start) - 1);
            g.strike(0);
            g.see(200, 0, 1, true);
            Check.due("b not ahead of a at " + start, g.starts(1), start > 30 ? 0 : ALL & ~((1 << start) - 1));
        }
        EggGarden own = Check.garden("garden 1 1;egg red 0 0 0;child a 0 0 9 0 99;");
        own.see(99, 0, 1, true);
        Check.due("in place of its own", own.starts(0), ALL);
        Check.due("its own stays", own.go(99), 99);
        Check.due("its own stays", own.child(0, 3), 0);
    }

    private static void startingFromTheText() {
        String text = "garden 2 1;egg red 0 0 0;child a 0 0 9 0 0;sun 4;dog 1;";
        EggGarden g = Check.garden(text);
        g.see(9, 0, 1, true);
        Check.due("till the sun, no DOG", g.starts(0), 31);
        g.go(9);
        g.set(0, 1);
        g.rule(2);
        g.hide(0, 0, 0);
        Check.due("from the TEXT on", g.starts(0), 31);
        g.keep();
        g.go(1);
        g.back();
        Check.due("from the TEXT on behind back()", g.starts(0), 31);
        EggGarden odds = Check.garden("garden 1 1;egg red 0 0 6;child a 0 0 9 0 0;");
        odds.see(200, 0, 1, false);
        Check.due("SURE: ODDS 40 are 0", odds.starts(0), ALL);
    }

    private static void chancesAsked() {
        for (int seed : new int[] {-1, -2, LEAST}) {
            Trace.none("chance by seed " + seed, g -> g.chance(seed, 1, 0, 0), EggGarden.NONE);
        }
        for (int t : new int[] {-1, 0, 201, LEAST, MOST}) {
            Trace.none("chance for " + t, g -> g.chance(0, t, 0, 0), EggGarden.NONE);
        }
        for (int child : new int[] {-1, 2, 4, LEAST, MOST}) {
            Trace.none("chance of child " + child, g -> g.chance(0, 1, child, 0), EggGarden.NONE);
        }
        for (int n : new int[] {-1, 17, LEAST, MOST}) {
            Trace.none("chance of " + n, g -> g.chance(0, 1, 0, n), EggGarden.NONE);
        }
        for (int seed : new int[] {0, 1, MOST - 1, MOST}) {
            Trace.none("chance by seed " + seed, g -> g.chance(seed, 200, 1, 0), 10);
            Trace.none("chance by seed " + seed, g -> g.chance(seed, 1, 0, 16), 0);
        }
        Check.due("no CHILDREN", new EggGarden().chance(0, 1, 0, 0), EggGarden.NONE);
    }

    private static void chancesOfAllAndNone() {
        EggGarden g = Check.garden("garden 1 1;child a 0 0 9 0 0;child b 0 0 9 0 99;");
        for (int i = 0; i < 16; i++) {
            g.hide(0, 0, 0);
        }
        Check.due("sixteen", g.chance(5, 1, 0, 16), 10);
        Check.due("none for b", g.chance(5, 1, 1, 1), 0);
        Check.due("0 for b", g.chance(5, 1, 1, 0), 10);
        // START at 199 can't be told: at 99 it is there behind 100 SECONDS, not behind 99.
        EggGarden late = Check.garden("garden 1 1;egg red 0 0 0;child a 0 0 9 0 99;");
        Check.due("behind 99", late.chance(0, 99, 0, 1), 0);
        Check.due("behind 100", late.chance(0, 100, 0, 1), 10);
        late.go(99);
        Check.due("from now", late.chance(0, 1, 0, 1), 10);
    }

    private static long number(long number) {
        return (number * 1103515245L + 12345L) & 0x7fffffffL;
    }

    private static void chancesByNumbers() {
        EggGarden g = Check.garden("garden 1 1;egg red 0 0 5;child a 0 0 9 0 0;seed 9;");
        for (int seed : new int[] {0, 1, 99999, 1 << 30, MOST - 1, MOST}) {
            long number = seed;
            int lucky = 0;
            for (int morning = 0; morning < 10; morning++) {
                number = number(number);
                lucky += number / 65536 % 100 < 50 ? 1 : 0;
            }
            Check.due("one number a morning from " + seed, g.chance(seed, 1, 0, 1), lucky);
        }
        int told = g.chance(7, 1, 0, 1);
        g.go(1);
        int had = g.child(0, 1);
        Check.due("what was found is found in all", g.chance(7, 1, 0, 1), had == 1 ? 10 : told);
    }

    private static void triedAsked() {
        for (int what : new int[] {-1, 5, LEAST, MOST}) {
            Trace.none("tried(" + what + ", 0, 1)", g -> g.tried(what, 0, 1), EggGarden.NONE);
        }
        for (int t : new int[] {-1, 201, LEAST, MOST}) {
            for (int what = 0; what < 5; what++) {
                int asked = what;
                Trace.none("tried(" + what + ", 0, " + t + ")", g -> g.tried(asked, 0, t), EggGarden.NONE);
            }
        }
        for (int i : new int[] {-1, 1, 2, LEAST, MOST}) {
            for (int what : new int[] {0, 1, 3, 4}) {
                Trace.none("tried(" + what + ", " + i + ", 1)", g -> g.tried(what, i, 1), EggGarden.NONE);
            }
        }
        for (int i : new int[] {-1, 2, 4, LEAST, MOST}) {
            Trace.none("tried(2, " + i + ", 1)", g -> g.tried(2, i, 1), EggGarden.NONE);
        }
        for (int what = 0; what < 5; what++) {
            int asked = what;
            int found = Trace.busy().count(7);
            Trace.none("tried(" + what + ", 0, 0)", g -> g.tried(asked, 0, 0), found);
            Trace.none("tried(" + what + ", 0, 200)", g -> g.tried(asked, 0, 200) >= found ? 1 : 0, 1);
        }
        Trace.none("tried(2, 1, 200)", g -> g.tried(2, 1, 200) >= 0 ? 1 : 0, 1);
    }

    private static void triedOfNone() {
        EggGarden none = new EggGarden();
        for (int what : new int[] {0, 1, 3, 4}) {
            Check.due("no CHILDREN", none.tried(what, 0, 200), 0);
        }
        Check.due("no CHILDREN", none.tried(2, 0, 200), EggGarden.NONE);
        EggGarden four = Check.garden("garden 1 1;egg gold 0 0 0;rule own;child a 0 0 9 0 0;child b 0 0 9 0 0;"
                + "child c 0 0 9 0 0;child d 0 0 9 0 0;");
        Check.due("without a gold is d's", four.tried(2, 0, 1), 1);
        Check.due("without d it is nobody's", four.tried(2, 3, 1), 0);
        Check.due("there is no fifth", four.tried(2, 4, 1), EggGarden.NONE);
    }

    private static void triedAtTheEdges() {
        // 0: AGE 11 for the young and for the old.
        EggGarden ages = Check.garden("garden 1 1;child a 0 0 15 0 0;egg red 0 0 0;law see 50*(age=11);");
        Check.due("0: from 15 down", ages.tried(0, 0, 1), 1);
        EggGarden young = Check.garden("garden 1 1;child a 0 0 1 0 0;egg red 0 0 0;law see 50*(age=11);");
        Check.due("0: from 1 up", young.tried(0, 0, 1), 1);
        Check.due("1: as it is", young.tried(1, 0, 200), 0);
        // 1: no sun, at 0 and later.
        for (int sun : new int[] {0, 1, 98}) {
            EggGarden g = Check.garden("garden 1 1;child a 0 0 9 0 99;egg red 0 0 0;sun " + sun + ";");
            Check.due("1: no sun at " + sun, g.tried(1, 0, 100), 1);
            Check.due("4: with it", g.tried(4, 0, 100), 0);
        }
        // 3: START at 0, whatever it was.
        EggGarden starts = Check.garden("garden 1 1;child a 0 0 9 0 99;egg red 0 0 0;");
        Check.due("3: at 0", starts.tried(3, 0, 1), 1);
        Check.due("3: no SECONDS", starts.tried(3, 0, 0), 0);
        Check.due("4: at 99", starts.tried(4, 0, 99), 0);
        Check.due("4: at 99", starts.tried(4, 0, 100), 1);
        // 4: nobody walks, of any PACE.
        EggGarden walks = Check.garden("garden 2 1;child a 0 0 9 3 0;egg red 1 0 0;");
        Check.due("4: nobody walks", walks.tried(4, 0, 200), 0);
        Check.due("3: it walks", walks.tried(3, 0, 2), 1);
        Check.due("3: not within 1", walks.tried(3, 0, 1), 0);
        EggGarden all = Check.garden("garden 1 1;child a 0 0 9 0 0;dog 1;");
        for (int i = 0; i < 16; i++) {
            all.hide(0, 0, 5);
        }
        Check.due("sixteen, SURE", all.tried(1, 0, 200), 16);
    }

    private static void undoingAsked() {
        EggGarden none = new EggGarden();
        Trace.none("undo of none", new EggGarden(), none, g -> g.undo(), EggGarden.NONE);
        EggGarden g = Trace.busy();
        for (int left = 4; left >= 0; left--) {
            Check.due("undo", g.undo(), left);
            Check.due("left", g.count(14), left);
        }
        Check.due("none", g.undo(), EggGarden.NONE);
        Check.due("none", g.undo(), EggGarden.NONE);
        Check.due("as ahead of all: eggs", g.count(2), 4);
        Check.due("as ahead of all: rule", g.count(11), 1);
    }

    private static EggGarden sets(int many) {
        EggGarden g = Check.garden("garden 8 6;child a 0 0 9 0 0;");
        for (int i = 1; i <= many; i++) {
            Check.due("set", g.set(0, i), true);
        }
        return g;
    }

    private static void undoingAtMostTwenty() {
        for (int many : new int[] {19, 20, 21, 22, 47}) {
            EggGarden g = sets(many);
            int can = Math.min(20, many);
            Check.due("what can be undone of " + many, g.count(14), can);
            for (int left = can - 1; left >= 0; left--) {
                Check.due("undo", g.undo(), left);
                Check.due("the latest first", g.child(0, 0), many - can + left);
            }
            Check.due("none is left of " + many, g.undo(), EggGarden.NONE);
            Check.due("the oldest stay", g.child(0, 0), many - can);
        }
        // Calls of all four sorts beyond twenty: those that fall out stay done.
        EggGarden g = Check.garden("garden 8 6;child a 0 0 9 0 0;");
        g.hide(0, 0, 0);
        g.rule(1);
        for (int i = 1; i <= 6; i++) {
            g.set(0, i);
            g.hide(i, i % 4, i);
            g.take();
        }
        Check.due("twenty", g.count(14), 20);
        g.rule(2);
        Check.due("twenty", g.count(14), 20);
        for (int left = 19; left >= 0; left--) {
            Check.due("undo", g.undo(), left);
        }
        Check.due("the first one HIDDEN stays", g.count(2), 1);
        Check.due("the rule is undone", g.count(11), 0);
        Check.due("a is where it was", g.child(0, 0), 0);
        // What was undone makes room for others.
        g.set(0, 9);
        Check.due("one", g.count(14), 1);
    }

    private static void undoingOfEach() {
        EggGarden g = Check.garden("garden 3 2;egg red 0 0 0;child a 0 0 9 0 0;child b 2 1 9 0 0;");
        Check.due("hide", g.hide(4, 3, 9), 1);
        Check.due("undo", g.undo(), 0);
        Check.due("no such egg", g.egg(1, 0), -4);
        Check.due("no such egg", g.take(), false);
        g.hide(4, 3, 9);
        g.hide(5, 2, 8);
        g.take();
        g.take();
        Check.due("four", g.count(14), 4);
        Check.due("undo a take", g.undo(), 3);
        Check.due("it is there: cell", g.egg(1, 0), 4);
        Check.due("it is there: color", g.egg(1, 1), 3);
        Check.due("it is there: hard", g.egg(1, 2), 9);
        Check.due("it is there: HIDDEN", g.egg(1, 3), -1);
        Check.due("undo a take", g.undo(), 2);
        Check.due("it is there: cell", g.egg(2, 0), 5);
        Check.due("it is there: color", g.egg(2, 1), 2);
        Check.due("it is there: hard", g.egg(2, 2), 8);
        g.set(1, 0);
        g.set(0, 5);
        Check.due("undo a set", g.undo(), 3);
        Check.due("a", g.child(0, 0), 0);
        Check.due("b", g.child(1, 0), 0);
        Check.due("undo a set", g.undo(), 2);
        Check.due("b", g.child(1, 0), 5);
        // Refused calls can't be undone.
        g.set(1, 5);
        g.rule(0);
        g.rule(3);
        g.hide(6, 0, 0);
        g.known(0);
        g.see(1, 0, 0, true);
        g.strike(0);
        g.keep();
        Check.due("two still", g.count(14), 2);
        Check.due("undo a hide", g.undo(), 1);
        Check.due("eggs", g.count(2), 2);
        // Sixteen, one of them taken and undone.
        EggGarden full = new EggGarden();
        for (int i = 0; i < 16; i++) {
            full.hide(i, 0, 0);
        }
        full.take();
        Check.due("undo at sixteen", full.undo(), 16);
        Check.due("sixteen", full.count(2), 16);
        Check.due("the last", full.egg(15, 0), 15);
    }

    private static String told(EggGarden g) {
        StringBuilder all = new StringBuilder();
        all.append(g.count(11));
        for (int child = 0; child < 2; child++) {
            all.append(' ').append(g.child(child, 0));
        }
        int eggs = g.count(2);
        for (int egg = 0; egg < eggs; egg++) {
            all.append(' ').append(g.egg(egg, 0)).append(g.egg(egg, 1)).append(g.egg(egg, 2));
        }
        return all.toString();
    }

    /** More than twenty of all four sorts: each of the latest twenty is undone to what was ahead of it. */
    private static void undoingOfMany() {
        for (int seed = 0; seed < 20; seed++) {
            java.util.Random random = new java.util.Random(seed);
            EggGarden g = Check.garden("garden 3 2;child a 0 0 9 0 0;child b 2 1 9 0 0;");
            java.util.List<String> ahead = new java.util.ArrayList<>();
            String before = told(g);
            while (ahead.size() < 24) {
                int dice = random.nextInt(5);
                boolean did = dice == 0 ? g.rule(random.nextInt(3))
                        : dice == 1 ? g.set(random.nextInt(2), random.nextInt(6))
                        : dice == 2 || g.count(2) > 1 ? g.take()
                        : g.hide(random.nextInt(6), random.nextInt(4), random.nextInt(10)) >= 0;
                if (did) {
                    ahead.add(before);
                    before = told(g);
                }
            }
            for (int left = 19; left >= 0; left--) {
                Check.due("undo", g.undo(), left);
                Check.due("as it was ahead of it", told(g).equals(ahead.get(4 + left)), true);
            }
            Check.due("none is left", g.undo(), EggGarden.NONE);
        }
    }

    private static void undoingBehindSeconds() {
        EggGarden g = Check.garden("garden 2 1;child a 0 0 9 0 99;");
        g.set(0, 1);
        g.go(0);
        g.go(-1);
        g.go(201);
        Check.due("no SECOND went by", g.count(14), 1);
        g.tears(0, 200);
        g.chance(0, 200, 0, 0);
        Check.due("those thought of are none", g.count(14), 1);
        g.go(1);
        Check.due("one went by", g.count(14), 0);
        Check.due("one went by", g.undo(), EggGarden.NONE);
        Check.due("it stays", g.child(0, 0), 1);
        g.set(0, 0);
        Check.due("those since can be undone", g.undo(), 0);
        Check.due("those since can be undone", g.child(0, 0), 1);
        g.set(0, 0);
        Check.due("a FAULT", Check.tell(g, "#"), EggGarden.NONE);
        Check.due("can be undone still", g.count(14), 1);
        Check.due("no IMAGE", g.back(), EggGarden.NONE);
        Check.due("can be undone still", g.count(14), 1);
        Check.due("a TEXT", Check.tell(g, "child a 0 0 9 0 0;"), 1);
        Check.due("nothing to undo", g.undo(), EggGarden.NONE);
    }

    private static void keeping() {
        Trace.none("keep of the same SECOND twice", keptTwice(false), keptTwice(true), g -> g.count(5), 3);
        EggGarden g = Check.garden("garden 2 1;child a 0 0 9 1 0;");
        Check.due("keep", g.keep(), 0);
        g.go(5);
        Check.due("keep in place of it", g.keep(), 5);
        g.go(5);
        Check.due("back to the latest", g.back(), 5);
        Check.due("and again", g.back(), 5);
        g.go(3);
        Check.due("and again", g.back(), 5);
        // What is thought of or done later leaves the IMAGE alone.
        g.hide(0, 0, 0);
        g.set(0, 0);
        g.rule(1);
        g.tears(0, 100);
        g.stop(0, 1);
        Check.due("back", g.back(), 5);
        Check.due("eggs", g.count(2), 0);
        Check.due("where a is", g.child(0, 0), 1);
        Check.due("rule", g.count(11), 0);
    }

    private static EggGarden keptTwice(boolean twice) {
        EggGarden g = Check.garden(Trace.TEXT);
        g.go(3);
        g.hide(0, 0, 0);
        g.keep();
        if (twice) {
            g.keep();
        }
        return g;
    }

    private static void goingBack() {
        Trace.none("no IMAGE", withoutImage(), withoutImage(), g -> g.back(), EggGarden.NONE);
        EggGarden g = withoutImage();
        g.keep();
        Check.due("a FAULT leaves the IMAGE", Check.tell(g, "dog 0;"), EggGarden.NONE);
        g.go(7);
        Check.due("back", g.back(), 2);
        Check.due("nothing to undo then", g.undo(), EggGarden.NONE);
        Check.due("no IMAGE behind a TEXT", Check.tell(g, "child a 0 0 9 0 0;"), 1);
        Check.due("no IMAGE behind a TEXT", g.back(), EggGarden.NONE);
        // What was SEEN since stays.
        EggGarden seen = Check.garden("garden 1 1;egg red 0 0 0;child a 0 0 9 0 0;");
        seen.see(1, 0, 1, true);
        seen.keep();
        seen.see(1, 0, 1, false);
        seen.go(1);
        Check.due("back", seen.back(), 0);
        Check.due("SEEN", seen.count(12), 2);
        Check.due("both are KNOWN", seen.starts(0), 0);
        // The IMAGE of the last SECOND lets go as far as it did.
        EggGarden last = Check.garden("garden 1 1;child a 0 0 9 0 0;");
        for (int i = 0; i < 49; i++) {
            last.go(200);
        }
        last.keep();
        Check.due("the last SECOND", last.go(199), 9999);
        Check.due("back", last.back(), 9800);
        Check.due("too far", last.go(200), EggGarden.NONE);
        Check.due("the last SECOND again", last.go(199), 9999);
    }

    private static EggGarden withoutImage() {
        EggGarden g = Check.garden(Trace.TEXT);
        g.go(2);
        g.see(4, 0, 1, true);
        g.hide(3, 1, 2);
        g.set(1, 0);
        return g;
    }

    private static void counting() {
        for (int what : new int[] {-1, 16, 17, LEAST, MOST}) {
            Trace.none("count(" + what + ")", g -> g.count(what), EggGarden.NONE);
        }
        for (int what = 0; what < 16; what++) {
            int asked = what;
            Trace.none("count(" + what + ")", g -> g.count(asked) >= 0 ? 1 : 0, 1);
        }
        EggGarden none = new EggGarden();
        Check.due("UNLIKE without CHILDREN", none.count(15), 0);
        Check.due("count(16)", none.count(16), EggGarden.NONE);
    }

    private static void countingBounds() {
        EggGarden g = Check.garden("garden 8 6;rule behind;child a 0 0 1 3 0;child b 7 5 7 3 0;child c 7 0 7 3 0;"
                + "child d 0 5 7 3 0;law see 50*(" + "1+".repeat(28) + "1)*1;law keep 1;");
        Check.due("WIDE", g.count(0), 8);
        Check.due("HIGH", g.count(1), 6);
        Check.due("KNOTS", g.count(4), 62);
        Check.due("CHILDREN", g.count(3), 4);
        for (int i = 0; i < 16; i++) {
            g.hide(i * 3, i % 4, i % 10);
        }
        g.go(200);
        Check.due("EGGS", g.count(2), 16);
        Check.due("all CELLS LOOKED AT", g.count(10), 48);
        Check.due("all found", g.count(7), 16);
        Check.due("none HIDDEN", g.count(6), 0);
        Check.due("rule", g.count(11), 2);
        int most = 0;
        int fewest = 16;
        for (int child = 0; child < 4; child++) {
            most = Math.max(most, g.child(child, 1));
            fewest = Math.min(fewest, g.child(child, 1));
        }
        Check.due("UNLIKE", g.count(15), most - fewest);
        EggGarden alone = Check.garden("garden 1 1;egg red 0 0 0;child a 0 0 9 0 0;");
        alone.go(1);
        Check.due("UNLIKE of one CHILD", alone.count(15), 0);
        EggGarden melted = Check.garden("garden 1 1;sun 0;" + "egg red 0 0 0;".repeat(12));
        melted.go(1);
        Check.due("all melted", melted.count(9), 12);
        EggGarden dogs = Check.garden("garden 1 1;dog 1;" + "egg red 0 0 0;".repeat(12));
        dogs.go(13);
        Check.due("all the DOG's", dogs.count(8), 12);
        Check.due("none found", dogs.count(7), 0);
    }
}
