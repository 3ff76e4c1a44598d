/** The bounds of promises 16 to 29 (Terms, part 3): the last that is taken, the first that is refused. */
public final class ThoughtBoundsTest {
    private static final int LEAST = Integer.MIN_VALUE;
    private static final int MOST = Integer.MAX_VALUE;

    public static void main(String[] args) {
        weightsAsked();
        weightsByLaw();
        weightsByLooks();
        nextsAsked();
        nextsAlike();
        stopsAsked();
        stopsAtTheCost();
        placesAsked();
        placesTooFewCells();
        placesByTime();
        placesOfSeveral();
        placesBesideSixteen();
        placesByAllLooks();
        placesByLaws();
        latersAsked();
        latersOfTheOldest();
        tearsAsked();
        tearsOfSeveral();
        kindestAsked();
        restsOfFewCells();
        restsOfHalves();
        restsAsked();
        alikeAsked();
        forgotten();
        worths();
        trades();
        sharing();
        Check.end();
    }

    private static void weightsAsked() {
        for (int cell : new int[] {-1, 6, 47, 48, LEAST, MOST}) {
            Trace.none("weight(" + cell + ")", g -> g.weight(cell), EggGarden.NONE);
        }
        EggGarden g = Check.garden("garden 8 6;tree 7 5;");
        Check.due("weight(47)", g.weight(47), 4000);
        Check.due("weight(48)", g.weight(48), EggGarden.NONE);
        Check.due("weight(0)", g.weight(0), 1000);
    }

    private static int weightBy(String law) {
        return Check.garden("garden 1 1;tree 0 0;law hide " + law + ";").weight(0);
    }

    private static void weightsByLaw() {
        Check.due("0", weightBy("0"), 0);
        Check.due("-1 is 0", weightBy("0-1"), 0);
        Check.due("1", weightBy("1"), 1000);
        Check.due("999", weightBy("999"), 999000);
        Check.due("1000 is 999", weightBy("1000"), 999000);
        Check.due("2 to the 32 is 999", weightBy("4096*4096*256"), 999000);
        Check.due("2 to the 32 below 0 is 0", weightBy("0-4096*4096*256"), 0);
        Check.due("an ERROR: 1 and KIND", weightBy("1/0"), 4000);
        Check.due("an ERROR: 1 and KIND", weightBy("1000*1000*1000*1000+1"), 4000);
        Check.due("of hide all but KIND and row are 0", weightBy("7+age+hard+color+mine+many"), 7000);
        EggGarden without = Check.garden("garden 4 1;bush 1 0;pot 2 0;tree 3 0;");
        for (int kind = 0; kind < 4; kind++) {
            Check.due("without a law", without.weight(kind), 1000 + 1000 * kind);
        }
    }

    private static void weightsByLooks() {
        int[] odds = {0, 1, 99, 100};
        int[] once = {999000, 989010, 9990, 0};
        int[] twice = {999000, 979119, 99, 0};
        for (int i = 0; i < odds.length; i++) {
            EggGarden g = Check.garden("garden 1 1;child a 0 0 9 0 0;law hide 999;law see " + odds[i] + ";");
            g.go(1);
            Check.due("one LOOK by ODDS " + odds[i], g.weight(0), once[i]);
            g.go(1);
            Check.due("two LOOKS by ODDS " + odds[i], g.weight(0), twice[i]);
        }
        EggGarden g = Check.garden("garden 2 1;child a 0 0 9 0 0;law see 1;law hide 1;");
        for (int i = 0; i < 5; i++) {
            g.go(200);
        }
        Check.due("it ends at 0", g.weight(0), 0);
        Check.due("where nobody looked it stays", g.weight(1), 1000);
        EggGarden moved = Check.garden("garden 2 1;child a 0 0 9 0 0;");
        moved.set(0, 1);
        moved.set(0, 0);
        Check.due("to be set somewhere is no LOOK", moved.weight(1), 1000);
    }

    private static void nextsAsked() {
        for (int child : new int[] {-1, 2, 4, LEAST, MOST}) {
            Trace.none("next(" + child + ")", g -> g.next(child), EggGarden.NONE);
        }
        Trace.none("next(1)", g -> g.next(1) >= 0 ? 1 : 0, 1);
        EggGarden g = Check.garden("garden 2 2;rule behind;line 2;child a 0 0 8 1 0;child b 0 0 7 1 0;");
        Check.due("it may go nowhere", g.next(0), EggGarden.NONE);
        Check.due("AGE 7 may", g.next(1), 0);
        Check.due("stop of one who may go nowhere", g.stop(0, 1), 0);
        g.rule(1);
        Check.due("by another rule it may", g.next(0), 0);
        EggGarden row = Check.garden("garden 2 2;rule behind;line 1;child a 0 0 8 1 0;");
        Check.due("y as the line is behind it", row.next(0), 2);
    }

    private static void nextsAlike() {
        EggGarden same = Check.garden("garden 3 1;law hide 1+(kind>0);bush 0 0;bush 2 0;child a 1 0 9 0 0;");
        Check.due("2000/2, 1000/1, 2000/2: of several the first", same.next(0), 0);
        EggGarden zero = Check.garden("garden 3 2;law hide 0;child a 2 1 9 0 0;");
        Check.due("all 0: the first", zero.next(0), 0);
        // 2000 by 3 is more than 1332 by 2, though both are 666, cut.
        EggGarden fine = Check.garden("garden 3 1;bush 1 0;tree 2 0;child a 0 0 9 0 0;"
                + "law hide 999*(kind=3)+666*(kind=1);law see 0;");
        Check.due("666/2 and 999/3: the first", fine.next(0), 1);
        EggGarden more = Check.garden("garden 3 1;bush 1 0;tree 2 0;child a 0 0 9 0 0;"
                + "law hide 998*(kind=3)+665*(kind=1);law see 0;");
        Check.due("665/2 and 998/3 by fractions", more.next(0), 2);
        EggGarden far = Check.garden("garden 8 6;tree 7 5;child a 0 0 9 0 0;law hide 13*(kind=3)+(kind=0);");
        Check.due("13000/13 and 1000/1: the first", far.next(0), 0);
        EggGarden further = Check.garden("garden 8 6;tree 7 5;child a 0 0 9 0 0;law hide 14*(kind=3)+(kind=0);");
        Check.due("14000/13 is more", further.next(0), 47);
    }

    private static void stopsAsked() {
        for (int child : new int[] {-1, 2, 4, LEAST, MOST}) {
            Trace.none("stop(" + child + ", 1)", g -> g.stop(child, 1), EggGarden.NONE);
        }
        for (int cost : new int[] {0, -1, 100000, 100001, LEAST, MOST}) {
            Trace.none("stop(0, " + cost + ")", g -> g.stop(0, cost), EggGarden.NONE);
        }
        Trace.none("stop(0, 99999)", g -> g.stop(0, 99999), 0);
        Trace.none("stop(1, 1)", g -> g.stop(1, 1) > 0 ? 1 : 0, 1);
    }

    private static void stopsAtTheCost() {
        // 999000 for ever: 40 at most, whatever the cost.
        EggGarden blind = Check.garden("garden 8 6;tree 7 5;child a 0 0 9 0 0;law hide 999*(kind=3);law see 0;");
        Check.due("cost 1", blind.stop(0, 1), 40);
        Check.due("99999 times 13 is more than 999000", blind.stop(0, 99999), 0);
        Check.due("76846 times 13 is 998998", blind.stop(0, 76846), 40);
        Check.due("76847 times 13 is 999011", blind.stop(0, 76847), 0);
        EggGarden near = Check.garden("garden 1 1;child a 0 0 9 0 0;law hide 99;law see 0;");
        Check.due("99000 is as much as the cost", near.stop(0, 99000), 40);
        Check.due("and less than that", near.stop(0, 99001), 0);
        // WEIGHT less by each: 39 of them and 40.
        EggGarden slow = Check.garden("garden 1 1;child a 0 0 9 0 0;law hide 1;law see 1;");
        int weight = 1000;
        for (int i = 1; i < 39; i++) {
            weight = weight * 99 / 100;
        }
        Check.due("39 LOOKS", slow.stop(0, weight), 39);
        Check.due("38 LOOKS", slow.stop(0, weight + 1), 38);
        Check.due("40 at most", slow.stop(0, weight * 99 / 100), 40);
        Check.due("and no more", slow.stop(0, 1), 40);
        EggGarden sure = Check.garden("garden 1 1;child a 0 0 9 0 0;law see 100;");
        Check.due("nothing is left behind one", sure.stop(0, 1), 1);
        EggGarden zero = Check.garden("garden 1 1;child a 0 0 9 0 0;law hide 0;");
        Check.due("WEIGHT 0 is less than any cost", zero.stop(0, 1), 0);
        // Each LOOK is made where NEXT is from where the one ahead was.
        EggGarden walk = Check.garden("garden 3 1;tree 0 0;tree 2 0;child a 0 0 9 0 0;law hide kind;law see 100;");
        Check.due("3000 at once, 3000 by 3", walk.stop(0, 1000), 2);
        Check.due("3000 at once alone", walk.stop(0, 1001), 1);
    }

    private static void placesAsked() {
        for (int n : new int[] {-1, 0, 3, LEAST, MOST}) {
            Trace.none("place(" + n + ", ..)", g -> g.place(n, 0, 0, 1, 0), EggGarden.NONE);
        }
        for (int color : new int[] {-1, 4, LEAST, MOST}) {
            Trace.none("place of color " + color, g -> g.place(1, color, 0, 1, 0), EggGarden.NONE);
        }
        for (int hard : new int[] {-1, 10, LEAST, MOST}) {
            Trace.none("place of hard " + hard, g -> g.place(1, 0, hard, 1, 0), EggGarden.NONE);
        }
        for (int t : new int[] {-1, 0, 41, LEAST, MOST}) {
            Trace.none("place for " + t, g -> g.place(1, 0, 0, t, 0), EggGarden.NONE);
        }
        for (int what : new int[] {-1, 3, LEAST, MOST}) {
            Trace.none("place of what " + what, g -> g.place(2, 0, 0, 1, what), EggGarden.NONE);
        }
        Trace.none("place of the second of one", g -> g.place(1, 3, 9, 40, 2), -2);
        Trace.none("place of the second of two", g -> g.place(2, 3, 9, 40, 2) > 0 ? 1 : 0, 1);
        Trace.none("place of the first of two", g -> g.place(2, 0, 0, 40, 1) >= 0 ? 1 : 0, 1);
        for (int what = 0; what < 3; what++) {
            Check.due("no CHILDREN", Check.garden("garden 3 2;egg red 0 0 0;").place(2, 0, 0, 1, what), EggGarden.NONE);
        }
    }

    private static void placesTooFewCells() {
        EggGarden one = Check.garden("garden 1 1;child a 0 0 9 0 0;");
        for (int what = 0; what < 3; what++) {
            Check.due("two in one CELL", one.place(2, 0, 0, 1, what), -3);
        }
        Check.due("one in one CELL", one.place(1, 0, 0, 1, 0), 0);
        Check.due("one in one CELL", one.place(1, 0, 0, 1, 1), 0);
        Check.due("one in one CELL", one.place(1, 0, 0, 1, 2), -2);
        for (String size : new String[] {"2 1", "1 2"}) {
            EggGarden two = Check.garden("garden " + size + ";child a 0 0 9 0 0;");
            Check.due("two in two CELLS", two.place(2, 0, 0, 1, 0), 0);
            Check.due("two in two CELLS", two.place(2, 0, 0, 1, 1), 0);
            Check.due("two in two CELLS", two.place(2, 0, 0, 1, 2), 1);
        }
    }

    private static void placesByTime() {
        // b stands at the far end from START on: what is HIDDEN there is found in this SECOND, not ahead of it.
        for (int t : new int[] {1, 2, 39, 40}) {
            EggGarden g = Check.garden("garden 8 6;egg red 0 0 0;child a 0 0 9 0 0;child b 7 5 9 0 " + (t - 1) + ";");
            Check.due("behind " + t, g.place(1, 0, 0, t, 0), 0);
            Check.due("behind " + t, g.place(1, 0, 0, t, 1), 47);
            if (t > 1) {
                Check.due("behind one less", g.place(1, 0, 0, t - 1, 0), 1);
            }
        }
        // What is 50 and more is found, SURE; the sun melts at its SECOND, no DOG is there.
        EggGarden odds = Check.garden("garden 2 1;egg red 0 0 0;child a 0 0 9 0 0;child b 1 0 9 0 0;dog 1;");
        Check.due("HARD 5", odds.place(1, 0, 5, 40, 0), 0);
        Check.due("HARD 6", odds.place(1, 0, 6, 40, 0), 1);
        EggGarden sun = Check.garden("garden 2 1;egg red 0 0 0;child a 0 0 9 0 0;child b 1 0 9 0 9;sun 8;");
        Check.due("melted ahead of it", sun.place(1, 0, 0, 40, 0), 1);
        EggGarden late = Check.garden("garden 2 1;egg red 0 0 0;child a 0 0 9 0 0;child b 1 0 9 0 9;sun 9;");
        Check.due("found in the sun's SECOND", late.place(1, 0, 0, 40, 1), 1);
    }

    private static void placesOfSeveral() {
        EggGarden none = Check.garden("garden 4 2;child a 0 0 9 0 99;");
        Check.due("all alike: the first", none.place(1, 0, 0, 40, 1), 0);
        Check.due("all alike: the first two", none.place(2, 0, 0, 40, 1), 0);
        Check.due("all alike: the first two", none.place(2, 0, 0, 40, 2), 1);
        EggGarden alone = Check.garden("garden 2 1;egg red 0 0 0;child a 0 0 9 0 0;");
        Check.due("one CHILD is never unlike", alone.place(1, 0, 0, 1, 0), 0);
        EggGarden last = Check.garden("garden 8 6;egg red 0 0 0;egg red 0 0 0;child a 0 0 9 0 0;child b 7 5 9 0 0;"
                + "child c 6 5 9 0 0;");
        Check.due("the last two", last.place(2, 0, 0, 1, 0), 1);
        Check.due("the last two", last.place(2, 0, 0, 1, 1), 46);
        Check.due("the last two", last.place(2, 0, 0, 1, 2), 47);
    }

    /** The new ones come beside sixteen that are there. */
    private static void placesBesideSixteen() {
        EggGarden g = Check.garden("garden 8 6;child a 0 0 9 0 0;child b 6 5 9 0 0;child c 7 5 9 0 0;");
        for (int i = 0; i < 14; i++) {
            g.hide(1 + i, 0, 9);
        }
        g.hide(0, 0, 0);
        g.hide(0, 0, 0);
        Check.due("sixteen", g.count(2), 16);
        Check.due("a has 2, b and c one each", g.place(2, 0, 0, 1, 0), 1);
        Check.due("where b is", g.place(2, 0, 0, 1, 1), 46);
        Check.due("where c is", g.place(2, 0, 0, 1, 2), 47);
        Check.due("one is too few", g.place(1, 0, 0, 1, 0), 2);
        Check.due("sixteen still", g.count(2), 16);
    }

    private static void placesByAllLooks() {
        // Four CHILDREN look in 40 SECONDS each, and the sun shines.
        EggGarden most = Check.garden("garden 8 6;child a 0 0 9 3 0;child b 7 5 9 3 0;child c 7 0 9 3 0;child d 0 5 9 3 0;"
                + "sun 39;");
        Check.due("in all four corners at once", most.place(2, 0, 0, 40, 0), 1);
        EggGarden sun = Check.garden("garden 2 1;child a 0 0 9 0 0;child b 0 0 9 0 0;child c 0 0 9 0 0;child d 0 0 9 0 0;"
                + "sun 0;");
        Check.due("only where they stand it is found", sun.place(1, 0, 0, 40, 1), 1);
        // Nobody looks at 0: the first CELL is as good as any where nobody finds it.
        EggGarden away = Check.garden("garden 3 1;child a 2 0 9 0 0;child b 1 0 9 0 0;");
        Check.due("nobody is at 0", away.place(1, 0, 0, 40, 0), 0);
        Check.due("nobody is at 0", away.place(1, 0, 0, 40, 1), 0);
        // What is found once isn't found again, though a hard one stays beside it.
        EggGarden twice = Check.garden("garden 3 1;egg red 0 0 0;egg red 0 0 9;child a 0 0 9 0 0;child b 1 0 9 0 0;");
        Check.due("one each", twice.place(1, 0, 0, 40, 0), 0);
        Check.due("where b is", twice.place(1, 0, 0, 40, 1), 1);
    }

    private static void placesByLaws() {
        for (int odds : new int[] {49, 50}) {
            EggGarden g = Check.garden("garden 2 1;child a 0 0 9 0 0;child b 1 0 9 0 0;law see " + odds + "*(hard=3);"
                    + "egg red 0 0 3;");
            Check.due("one each by ODDS " + odds, g.place(1, 0, 3, 1, 1), odds == 50 ? 1 : 0);
            Check.due("unlike by ODDS " + odds, g.place(1, 0, 3, 1, 0), 0);
            Check.due("too hard by ODDS " + odds, g.place(1, 0, 2, 1, 0), odds == 50 ? 1 : 0);
        }
        // By AGE, by one's own colour, by how many one has, by KIND and row.
        EggGarden age = Check.garden("garden 2 1;egg red 0 0 0;child a 0 0 9 0 0;child b 1 0 5 0 0;law see 50*(age=9);");
        Check.due("b sees none", age.place(1, 0, 0, 9, 0), 1);
        EggGarden own = Check.garden("garden 2 1;egg red 0 0 0;child a 0 0 9 0 0;child b 1 0 5 0 0;law see 50*mine;");
        Check.due("red isn't b's", own.place(1, 0, 0, 9, 0), 1);
        Check.due("blue is", own.place(1, 1, 0, 9, 0), 0);
        EggGarden row = Check.garden("garden 1 3;egg red 0 0 0;child a 0 0 9 0 0;child b 0 2 5 0 0;law see 50*(row<>2);");
        Check.due("b sees none in row 2", row.place(1, 0, 0, 9, 0), 1);
        // An object that was asked by another TEXT ahead.
        EggGarden again = Check.garden("garden 2 1;egg red 0 0 0;child a 0 0 9 0 0;child b 1 0 9 0 0;law see 100;");
        Check.due("one each", again.place(1, 0, 0, 1, 1), 1);
        Check.tell(again, "garden 2 1;egg red 0 0 0;child a 0 0 9 0 0;child b 1 0 9 0 0;law see 0;");
        Check.due("none", again.place(1, 0, 0, 1, 1), 0);
        Check.due("none", again.place(1, 0, 0, 1, 0), 0);
    }

    private static void latersAsked() {
        for (int t : new int[] {-1, 0, 201, LEAST, MOST}) {
            Trace.none("later(" + t + ", 0)", g -> g.later(t, 0), EggGarden.NONE);
        }
        for (int what : new int[] {-1, 2, LEAST, MOST}) {
            Trace.none("later(1, " + what + ")", g -> g.later(1, what), EggGarden.NONE);
        }
        Trace.none("later(200, 0)", g -> g.later(200, 0) >= 0 ? 1 : 0, 1);
        Trace.none("later(1, 1)", g -> g.later(1, 1) >= 0 ? 1 : 0, 1);
        EggGarden none = new EggGarden();
        Check.due("no CHILDREN", none.later(1, 0), EggGarden.NONE);
        Check.due("no CHILDREN", none.later(1, 1), EggGarden.NONE);
        EggGarden alone = Check.garden("egg red 0 0 0;child a 0 0 9 0 0;");
        Check.due("one CHILD", alone.later(1, 0), 0);
        Check.due("one CHILD", alone.later(1, 1), 0);
    }

    private static void latersOfTheOldest() {
        // Who has one takes no more if small; the big one takes all that is left.
        for (int start : new int[] {0, 1, 29, 30}) {
            String text = "garden 1 1;egg red 0 0 0;egg red 0 0 0;law see 100-100*many*(age<9);child a 0 0 5 0 "
                    + start + ";child b 0 0 9 0 0;";
            EggGarden g = Check.garden(text);
            Check.due("START " + start, g.later(200, 0), start);
            Check.due("START " + start, g.later(200, 1), 0);
            Check.due("within " + (start + 1), g.later(start + 1, 0), start);
            EggGarden over = Check.garden(text.replace("child a 0 0 5 0 " + start, "child a 0 0 5 0 31"));
            Check.due("31 is beyond 30", over.later(200, 0), 0);
            Check.due("31 is beyond 30", over.later(200, 1), 2);
        }
        // a takes all, b one at most: that a waits helps, that b waits doesn't.
        EggGarden first = Check.garden("garden 1 1;egg blue 0 0 0;egg blue 0 0 0;child a 0 0 9 0 0;child b 0 0 9 0 1;"
                + "law see 100-100*many*mine;");
        Check.due("of several the first", first.later(9, 0), 2);
        Check.due("of several the first", first.later(9, 1), 0);
        EggGarden four = Check.garden("garden 1 1;egg gold 0 0 0;egg gold 0 0 0;egg gold 0 0 0;egg gold 0 0 0;"
                + "child a 0 0 5 0 3;child b 0 0 5 0 3;child c 0 0 5 0 3;child d 0 0 9 0 0;law see 100-100*many*(age<9);");
        Check.due("the fourth is the oldest", four.later(9, 0), 3);
        Check.due("the fourth is the oldest", four.later(9, 1), 0);
        EggGarden other = Check.garden("garden 1 1;egg red 0 0 0;child a 0 0 15 0 99;child b 0 0 14 0 0;");
        Check.due("the fewest of several", other.later(200, 0), 0);
    }

    private static void tearsAsked() {
        for (int rule : new int[] {-1, 3, LEAST, MOST}) {
            Trace.none("tears(" + rule + ", 1)", g -> g.tears(rule, 1), EggGarden.NONE);
        }
        for (int t : new int[] {-1, 0, 201, LEAST, MOST}) {
            Trace.none("tears(0, " + t + ")", g -> g.tears(0, t), EggGarden.NONE);
            Trace.none("kindest(" + t + ")", g -> g.kindest(t), EggGarden.NONE);
        }
        for (int rule = 0; rule < 3; rule++) {
            int by = rule;
            Trace.none("tears(" + rule + ", 200)", g -> g.tears(by, 200) >= 0 ? 1 : 0, 1);
            Trace.none("tears(" + rule + ", 1)", g -> g.tears(by, 1) >= 0 ? 1 : 0, 1);
            Check.due("no CHILDREN", new EggGarden().tears(rule, 1), 0);
            Check.due("no CHILDREN", new EggGarden().tears(rule, 200), 0);
        }
    }

    private static void tearsOfSeveral() {
        StringBuilder text = new StringBuilder("garden 1 1;");
        text.append("egg red 0 0 0;".repeat(12));
        text.append("child a 0 0 9 0 0;child b 0 0 9 0 0;child c 0 0 9 0 0;child d 0 0 9 0 99;");
        EggGarden g = Check.garden(text.toString());
        Check.due("three have 12 less", g.tears(0, 1), 36);
        Check.due("by their own", g.tears(1, 1), 36);
        for (int i = 0; i < 4; i++) {
            g.hide(0, i, 0);
        }
        Check.due("three have 16 less", g.tears(0, 1), 48);
        Check.due("13, 1, 1, and d, who is not there yet", g.tears(1, 99), 12 + 12 + 13);
        Check.due("d STARTS at 99", g.tears(1, 100), 12 + 12 + 12);
        EggGarden alone = Check.garden("egg red 0 0 0;child a 0 0 9 0 0;");
        Check.due("one CHILD has no less", alone.tears(0, 200), 0);
    }

    private static void kindestAsked() {
        Check.due("no CHILDREN", new EggGarden().kindest(1), 0);
        Check.due("no CHILDREN", new EggGarden().kindest(200), 0);
        EggGarden same = Check.garden("garden 1 1;egg red 0 0 0;child a 0 0 9 0 0;child b 0 0 9 0 0;");
        same.rule(2);
        Check.due("of several the first, whatever the rule is", same.kindest(200), 0);
        EggGarden two = Check.garden("garden 1 1;egg red 0 0 0;egg blue 0 0 0;child a 0 0 9 0 0;child b 0 0 9 0 99;");
        Check.due("1 and 2 less", two.kindest(99), 1);
        Check.due("0 and 2 less", two.kindest(100), 1);
        EggGarden behind = Check.garden("garden 1 2;line 1;egg blue 0 0 0;child a 0 1 9 1 0;child b 0 1 7 0 0;");
        Check.due("by 0 a finds it, by 1 and 2 nobody does", behind.kindest(200), 1);
        EggGarden big = Check.garden("garden 1 2;line 1;egg red 0 0 0;child a 0 1 9 1 0;child b 0 1 7 0 0;");
        Check.due("by 2 alone nobody does", big.kindest(200), 2);
    }

    private static void rests(String text, int... want) {
        EggGarden g = Check.garden(text);
        Check.due("rests of " + text, g.rests(), want.length);
        for (int k = 0; k < want.length; k++) {
            Check.due("rest(" + k + ") of " + text, g.rest(k), want[k]);
        }
        Check.due("no more of " + text, g.rest(want.length), -2);
    }

    private static void restsOfFewCells() {
        rests("garden 1 1;", 0);
        rests("garden 1 1;law hide 0;", 0);
        rests("garden 2 1;", 1, 10);
        rests("garden 3 1;", 1, 2, 10, 12, 20, 21);
        rests("garden 4 1;", 1, 2, 3, 10, 12, 13, 20, 21, 23, 30, 31, 32);
        rests("garden 5 1;", 1, 2, 3, 10, 12, 13, 20, 21, 23, 30, 31, 32);
        rests("garden 8 6;", 1, 2, 3, 10, 12, 13, 20, 21, 23, 30, 31, 32);
        rests("garden 4 1;law hide 0;", 0, 1, 2, 3, 10, 11, 12, 13, 20, 21, 22, 23, 30, 31, 32, 33);
        rests("garden 8 6;law hide 0;", 0, 1, 2, 3, 10, 11, 12, 13, 20, 21, 22, 23, 30, 31, 32, 33);
        // The fifth greatest is none of them: 9, 4, 4, 4 and 4.
        rests("garden 5 1;tree 4 0;law hide 4+kind*2-(kind=3);", 0);
        // Only in the last CELLS is anything: the greatest are numbered first, wherever they are.
        rests("garden 6 5;tree 5 4;pot 4 4;law hide kind;", 1, 10);
    }

    private static void restsOfHalves() {
        // Half of the greatest against the next: as much, more, less.
        rests("garden 2 1;tree 1 0;law hide 1+(kind=3);", 0, 1, 10);
        rests("garden 2 1;tree 1 0;law hide 1+2*(kind=3);", 0);
        rests("garden 2 1;tree 1 0;law hide 2+(kind=3);", 1, 10);
        EggGarden g = Check.garden("garden 2 1;child a 0 0 9 0 0;child b 1 0 8 0 0;law see 99;");
        Check.due("1000 and 1000", g.rests(), 2);
        g.go(1);
        Check.due("10 and 10", g.weight(0) + g.weight(1), 20);
        g.go(1);
        Check.due("0 and 0", g.rests(), 4);
        // 3 and 1: half of 3 is 1, cut, as much as 1.
        EggGarden cut = Check.garden("garden 2 1;tree 1 0;child a 0 0 9 0 0;child b 1 0 8 0 0;law hide 1+2*(kind=3);"
                + "law see 90;");
        cut.go(3);
        Check.due("3", cut.weight(1), 3);
        Check.due("1", cut.weight(0), 1);
        Check.due("half of 3 is 1: as much", cut.rests(), 3);
        Check.due("both take 3", cut.rest(0), 0);
        Check.due("3 and 1", cut.rest(1), 1);
        Check.due("1 and 3", cut.rest(2), 10);
    }

    private static void restsAsked() {
        Trace.none("rests()", g -> g.rests() > 0 ? 1 : 0, 1);
        for (int k : new int[] {-1, -2, LEAST}) {
            Trace.none("rest(" + k + ")", g -> g.rest(k), EggGarden.NONE);
        }
        for (int k : new int[] {16, 17, 100, MOST}) {
            Trace.none("rest(" + k + ")", g -> g.rest(k), -2);
        }
        EggGarden g = Check.garden("garden 4 1;law hide 0;");
        Check.due("sixteen at most", g.rests(), 16);
        Check.due("the last", g.rest(15), 33);
        Check.due("no more", g.rest(16), -2);
        EggGarden fresh = new EggGarden();
        Check.due("the last of 12, not asked for before", fresh.rest(11), 32);
        Check.due("no more", fresh.rest(12), -2);
    }

    private static void alikeAsked() {
        for (int what : new int[] {-1, 2, LEAST, MOST}) {
            Trace.none("alike(" + what + ")", g -> g.alike(what), EggGarden.NONE);
        }
        // 2, 3, 2, 2, 2, 5: 50 by 256.
        Trace.none("alike(0)", g -> g.alike(0), 25);
        Trace.none("alike(1)", g -> g.alike(1), 128);
        for (String law : new String[] {"0", "0-1", "0-1000*1000"}) {
            EggGarden zero = Check.garden("garden 8 6;law hide " + law + ";");
            Check.due("all is 0", zero.alike(0), EggGarden.NONE);
            Check.due("all is 0", zero.alike(1), EggGarden.NONE);
            Check.due("all is 0, another what", zero.alike(2), EggGarden.NONE);
        }
        EggGarden one = Check.garden("garden 8 6;tree 7 5;law hide kind/3*999;");
        Check.due("one CELL alone", one.alike(0), 1);
        Check.due("one CELL alone", one.alike(1), 1);
        EggGarden least = Check.garden("garden 8 6;law hide 999;");
        Check.due("in least terms", least.alike(0), 1);
        Check.due("in least terms", least.alike(1), 48);
        EggGarden most = Check.garden("garden 8 6;bush 7 5;law hide 5000-kind*4002;");
        Check.due("beyond 999 is 999", most.alike(0), 47L * 999 * 999 + 998L * 998);
        Check.due("more than an int holds", most.alike(1), (47L * 999 + 998) * (47L * 999 + 998));
    }

    private static void forgotten() {
        // Behind 2 SECONDS 97 of 100 are kept.
        Trace.none("forgot()", g -> g.forgot(), 3 * Trace.busy().count(6));
        Check.due("no EGGS", new EggGarden().forgot(), 0);
        String egg = "garden 1 1;egg red 0 0 0;";
        Check.due("without a law", Check.garden(egg).forgot(), 0);
        Check.due("100 is kept", Check.garden(egg + "law keep 100;").forgot(), 0);
        Check.due("101 is 100", Check.garden(egg + "law keep 101;").forgot(), 0);
        Check.due("99", Check.garden(egg + "law keep 99;").forgot(), 1);
        Check.due("1", Check.garden(egg + "law keep 1;").forgot(), 99);
        Check.due("0", Check.garden(egg + "law keep 0;").forgot(), 100);
        Check.due("-1 is 0", Check.garden(egg + "law keep 0-1;").forgot(), 100);
        Check.due("2 to the 32 is 100", Check.garden(egg + "law keep 4096*4096*256;").forgot(), 0);
        Check.due("2 to the 32 below 0 is 0", Check.garden(egg + "law keep 0-4096*4096*256;").forgot(), 100);
        Check.due("an ERROR", Check.garden(egg + "law keep 1/0;").forgot(), 0);
        Check.due("age and mine are 0", Check.garden(egg + "child a 0 0 9 0 0;law keep 50+age+mine*7;").forgot(), 50);
        EggGarden all = Check.garden("garden 1 1;law keep 0;child a 0 0 9 0 5;");
        for (int i = 0; i < 16; i++) {
            all.hide(0, 0, 0);
        }
        Check.due("all sixteen", all.forgot(), 1600);
        all.go(6);
        Check.due("only those HIDDEN", all.forgot(), 0);
        EggGarden long9999 = Check.garden("garden 1 1;egg red 0 0 0;law keep 100-many/100;");
        for (int i = 0; i < 49; i++) {
            long9999.go(200);
        }
        long9999.go(199);
        Check.due("many is 9999 at the last SECOND", long9999.forgot(), 99);
        Check.due("many is 9999 at the last SECOND", long9999.law(3, 0, 0), 1);
    }

    private static int worthBy(String law) {
        return Check.garden("egg red 0 0 0;child a 0 0 9 0 0;law joy " + law + ";").worth(0, 0);
    }

    private static void worths() {
        Check.due("0", worthBy("0"), 0);
        Check.due("-1 is 0", worthBy("0-1"), 0);
        Check.due("999", worthBy("999"), 999);
        Check.due("1000 is 999", worthBy("1000"), 999);
        Check.due("2 to the 32 is 999", worthBy("4096*4096*256"), 999);
        Check.due("2 to the 32 below 0 is 0", worthBy("0-4096*4096*256"), 0);
        Check.due("an ERROR: 10, and 10 if mine", worthBy("1/0"), 20);
        Check.due("an ERROR where it isn't", Check.garden("egg blue 0 0 0;child a 0 0 9 0 0;law joy 1/0;").worth(0, 0), 10);
        EggGarden g = Check.garden("garden 1 1;child a 0 0 9 0 0;law joy 999+many;law see 100;");
        for (int i = 0; i < 16; i++) {
            g.hide(0, 0, 0);
        }
        g.go(1);
        Check.due("the worth of sixteen", g.child(0, 4), 16 * 999);
        for (int color = 0; color < 4; color++) {
            EggGarden own = Check.garden("child a 0 0 9 0 0;child b 0 0 9 0 0;child c 0 0 9 0 0;child d 0 0 9 0 0;");
            own.hide(0, color, 0);
            for (int child = 0; child < 4; child++) {
                Check.due("color " + color + " to " + child, own.worth(child, 0), child == color ? 20 : 10);
            }
        }
    }

    private static void trades() {
        for (int what : new int[] {-1, 4, LEAST, MOST}) {
            Trace.none("trade(" + what + ")", g -> g.trade(what), EggGarden.NONE);
        }
        for (int what = 0; what < 4; what++) {
            int asked = what;
            Check.due("no CHILDREN", new EggGarden().trade(what), -2);
            Check.due("one CHILD", Check.garden("egg red 0 0 0;child a 0 0 9 0 0;").trade(what), -2);
            Trace.none("trade(" + what + ")", g -> g.trade(asked) >= -2 ? 1 : 0, 1);
        }
        // The last CHILDREN and the last EGGS.
        EggGarden last = Check.garden("garden 4 1;child a 0 0 9 0 0;child b 1 0 9 0 0;child c 2 0 9 0 0;child d 3 0 9 0 0;"
                + "law see 100;");
        for (int i = 0; i < 14; i++) {
            last.hide(i % 4 < 2 ? i % 4 : 0, i % 4 < 2 ? i % 4 : 0, 0);
        }
        last.hide(3, 2, 0);
        last.hide(2, 3, 0);
        last.go(1);
        int[] want = {2, 3, 15, 14};
        for (int what = 0; what < 4; what++) {
            Check.due("trade(" + what + ") of the last ones", last.trade(what), want[what]);
        }
        // The first EGG may be the second CHILD's; what is HIDDEN is nobody's to swap.
        EggGarden zero = Check.garden("garden 3 1;egg red 1 0 0;egg blue 0 0 0;egg red 2 0 0;child a 0 0 9 0 0;"
                + "child b 1 0 9 0 0;");
        zero.go(1);
        int[] swap = {0, 1, 1, 0};
        for (int what = 0; what < 4; what++) {
            Check.due("trade(" + what + ") with EGG 0", zero.trade(what), swap[what]);
        }
        EggGarden hidden = Check.garden("garden 3 1;egg blue 0 0 0;egg red 2 0 0;child a 0 0 9 0 0;child b 1 0 9 0 0;");
        hidden.go(1);
        Check.due("red is HIDDEN", hidden.trade(0), -2);
        // Both must have more: as much is not enough for either.
        String two = "garden 2 1;egg blue 0 0 0;egg red 1 0 0;child a 0 0 9 0 0;child b 1 0 9 0 0;";
        int[][] worth = {{6, 5, 6, 5, 0}, {5, 5, 6, 5, -2}, {6, 5, 5, 5, -2}, {5, 6, 6, 5, -2}, {6, 5, 5, 6, -2}};
        for (int[] w : worth) {
            // To a: red w[0], blue w[1]; to b: blue w[2], red w[3].
            String law = "law joy (age=9)*(" + w[0] + "*(color=0)+" + w[1] + "*(color=1))+(age=8)*(" + w[2]
                    + "*(color=1)+" + w[3] + "*(color=0));";
            EggGarden g = Check.garden(two.replace("child b 1 0 9", "child b 1 0 8") + law);
            g.go(1);
            Check.due("trade by " + law, g.trade(0), w[4]);
        }
    }

    private static void sharing() {
        for (int egg : new int[] {-1, 5, 16, LEAST, MOST}) {
            Trace.none("shared(" + egg + ")", g -> g.shared(egg), EggGarden.NONE);
        }
        Trace.none("shared(4)", g -> g.shared(4), -2);
        Check.due("no EGGS", Check.garden("child a 0 0 9 0 0;").shared(0), EggGarden.NONE);
        Check.due("no CHILDREN", Check.garden("egg red 0 0 0;").shared(0), -2);
        EggGarden g = Check.garden("garden 3 1;bush 0 0;egg gold 0 0 0;egg red 1 0 0;egg green 2 0 0;dog 1;sun 3;"
                + "child a 0 0 9 0 0;child b 0 0 9 0 99;child c 0 0 9 0 99;law see 100;");
        g.go(200);
        Check.due("a CHILD's", g.shared(0), 0);
        Check.due("melted or the DOG's", g.shared(1), -2);
        Check.due("melted or the DOG's", g.shared(2), -2);
        EggGarden all = Check.garden("garden 1 1;child a 0 0 9 0 0;child b 0 0 9 0 99;child c 0 0 9 0 99;"
                + "child d 0 0 9 0 99;law joy 1;");
        for (int i = 0; i < 16; i++) {
            all.hide(0, 3, 0);
        }
        all.go(1);
        for (int e = 0; e < 16; e++) {
            Check.due("one by one, of several the first", all.shared(e), e % 4);
        }
        Check.due("no such one", all.shared(16), EggGarden.NONE);
        EggGarden zero = Check.garden("garden 1 1;egg red 0 0 0;egg red 0 0 0;child a 0 0 9 0 99;child b 0 0 9 0 0;"
                + "law joy 0;");
        zero.go(1);
        Check.due("worth 0: the first has least still", zero.shared(0), 0);
        Check.due("worth 0: the first has least still", zero.shared(1), 0);
    }
}
