/** Promises 16 to 29: weight, next, stop, place, later, tears, kindest, rests, rest, alike, forgot, worth, trade, shared. */
public final class ThoughtTest {
    public static void main(String[] args) {
        weights();
        weightsByLooks();
        nexts();
        stops();
        places();
        placesOfTwo();
        placesAtTheEdges();
        laters();
        tearsAndKindest();
        bushes();
        likenesses();
        forgetting();
        worths();
        trades();
        sharing();
        thoughtsChangeNothing();
        Check.end();
    }

    private static void weights() {
        EggGarden g = Check.garden("garden 4 1;bush 1 0;pot 2 0;tree 3 0;");
        for (int i = 0; i < 4; i++) {
            Check.due("weight(" + i + ")", g.weight(i), 1000 * (i + 1));
        }
        Check.due("weight(4)", g.weight(4), EggGarden.NONE);
        Check.due("weight(-1)", g.weight(-1), EggGarden.NONE);
        EggGarden law = Check.garden("garden 4 2;bush 1 0;pot 2 0;tree 3 0;law hide 1000-row*2000+6/(kind-1)+age+hard+many;");
        Check.due("at most 999", law.weight(0), 994000);
        Check.due("with an error 1 and KIND", law.weight(1), 2000);
        Check.due("at most 999", law.weight(2), 999000);
        Check.due("at least 0", law.weight(4), 0);
    }

    private static void weightsByLooks() {
        EggGarden g = Check.garden("garden 1 1;tree 0 0;child a 0 0 7 0 1;child b 0 0 8 0 0;child c 0 0 9 0 2;");
        // b leaves 50 of 100, a 70, c 50, each cut, one behind another as they look.
        int[] want = {2000, 700, 122, 21, 3, 0};
        Check.due("weight at first", g.weight(0), 4000);
        for (int t = 0; t < want.length; t++) {
            g.go(1);
            Check.due("weight behind second " + t, g.weight(0), want[t]);
        }
        EggGarden law = Check.garden("garden 1 1;child a 0 0 7 0 0;child b 0 0 8 0 0;egg red 0 0 0;egg red 0 0 0;"
                + "law see 20+mine*20+hard*4+color-many*9+row+kind;");
        law.go(1);
        Check.due("by red, HARD 5, many 0", law.weight(0), 1000 * 40 / 100 * 60 / 100);
        law.hide(0, 0, 0);
        Check.due("as laid by the TEXT", law.weight(0), 240);
    }

    private static void nexts() {
        EggGarden g = Check.garden("garden 5 1;tree 4 0;bush 1 0;child a 0 0 9 1 0;child b 2 0 9 1 0;");
        Check.due("next of a: 1000/1, 2000/2, 4000/5", g.next(0), 0);
        Check.due("next of b: 2000/2, 1000/1, 4000/3", g.next(1), 4);
        Check.due("next(2)", g.next(2), EggGarden.NONE);
        Check.due("next(-1)", g.next(-1), EggGarden.NONE);
        // 1001/2 is more than 500, 999/2 is less, by fractions and not by what is cut.
        EggGarden fine = Check.garden("garden 3 1;child a 0 0 9 1 0;law see 50;law hide 5-kind;bush 1 0;tree 2 0;");
        Check.due("5000/1", fine.next(0), 0);
        fine.go(1);
        fine.set(0, 0);
        Check.due("2500/1, 4000/2, 2000/3", fine.next(0), 0);
        EggGarden zero = Check.garden("garden 3 1;child a 2 0 9 1 0;law hide 0;");
        Check.due("all is 0: the first", zero.next(0), 0);
        EggGarden line = Check.garden("garden 1 3;tree 0 0;line 1;rule behind;child a 0 2 9 1 0;child b 0 2 7 1 0;");
        Check.due("not beyond the line", line.next(0), 2);
        Check.due("the small one may", line.next(1), 0);
    }

    private static void stops() {
        EggGarden g = Check.garden("garden 1 1;child a 0 0 9 1 0;");
        // 1000, 500, 250, 125, 62, 31, 15, 7, 3, 1, 0: a LOOK is worth its cost or more.
        Check.due("stop(0, 1000)", g.stop(0, 1000), 1);
        Check.due("stop(0, 1001)", g.stop(0, 1001), 0);
        Check.due("stop(0, 125)", g.stop(0, 125), 4);
        Check.due("stop(0, 126)", g.stop(0, 126), 3);
        Check.due("stop(0, 1)", g.stop(0, 1), 10);
        Check.due("stop(0, 99999)", g.stop(0, 99999), 0);
        Check.due("stop(0, 0)", g.stop(0, 0), EggGarden.NONE);
        Check.due("stop(0, 100000)", g.stop(0, 100000), EggGarden.NONE);
        Check.due("stop(1, 1)", g.stop(1, 1), EggGarden.NONE);
        Check.due("stop(-1, 1)", g.stop(-1, 1), EggGarden.NONE);
        Check.due("weights stay", g.weight(0), 1000);
        EggGarden blind = Check.garden("garden 1 1;child a 0 0 9 1 0;law see 0;");
        Check.due("40 at most", blind.stop(0, 1000), 40);
        // It walks: 4000/3 at the tree, then there again, then back.
        EggGarden walk = Check.garden("garden 3 1;tree 2 0;child a 0 0 9 1 0;");
        Check.due("the way counts", walk.stop(0, 1334), 0);
        Check.due("the way counts", walk.stop(0, 1333), 2);
        Check.due("then one is there", walk.stop(0, 1000), 3);
    }

    private static void places() {
        EggGarden g = Check.garden("garden 5 1;egg red 0 0 0;child a 0 0 9 0 0;child b 3 0 9 0 0;");
        Check.due("unlike", g.place(1, 0, 0, 1, 0), 0);
        Check.due("where b stands", g.place(1, 0, 0, 1, 1), 3);
        Check.due("no second one", g.place(1, 0, 0, 1, 2), -2);
        Check.due("too hard to be found", g.place(1, 0, 6, 1, 0), 1);
        Check.due("then the first", g.place(1, 0, 6, 1, 1), 0);
        Check.due("HARD 5 is 50", g.place(1, 0, 5, 1, 1), 3);
        Check.due("eggs stay", g.count(2), 1);
        g.rule(1);
        Check.due("by own colours red isn't b's", g.place(1, 0, 0, 1, 1), 1);
        Check.due("but blue is", g.place(1, 1, 0, 1, 1), 3);
        EggGarden walk = Check.garden("garden 8 1;egg red 0 0 0;child a 0 0 9 0 0;child b 4 0 9 1 0;sun 2;");
        Check.due("b goes 4, 3, 2", walk.place(1, 0, 0, 3, 1), 2);
        Check.due("behind 1 second", walk.place(1, 0, 0, 1, 1), 4);
        Check.due("behind 5 seconds the sun melts", walk.place(1, 0, 0, 5, 1), 2);
        EggGarden shade = Check.garden("garden 8 1;bush 1 0;egg red 0 0 0;child a 0 0 9 0 0;child b 4 0 9 1 0;sun 2;");
        Check.due("but not in a bush", shade.place(1, 0, 0, 5, 1), 1);
        g = Check.garden("garden 5 1;egg red 0 0 0;child a 0 0 9 0 0;child b 3 0 9 0 0;");
        g.go(1);
        Check.due("from now on", g.place(1, 0, 0, 1, 1), 3);
        Check.due("from now on", g.place(1, 0, 0, 1, 0), 0);
    }

    private static void placesOfTwo() {
        EggGarden g = Check.garden("garden 5 1;egg red 0 0 0;egg red 0 0 0;child a 0 0 9 0 0;child b 3 0 9 1 0;");
        Check.due("unlike", g.place(2, 0, 0, 2, 0), 0);
        Check.due("the first", g.place(2, 0, 0, 2, 1), 2);
        Check.due("the second", g.place(2, 0, 0, 2, 2), 3);
        Check.due("behind 1 second", g.place(2, 0, 0, 1, 0), 1);
        Check.due("behind 1 second the first", g.place(2, 0, 0, 1, 1), 1);
        Check.due("behind 1 second the second", g.place(2, 0, 0, 1, 2), 3);
        EggGarden greedy = Check.garden("garden 3 1;child a 0 0 9 1 0;child b 2 0 9 0 0;law see 100-many*60;");
        Check.due("who has one sees no other", greedy.place(2, 0, 0, 9, 0), 0);
        Check.due("the first", greedy.place(2, 0, 0, 9, 1), 0);
        Check.due("the second", greedy.place(2, 0, 0, 9, 2), 2);
    }

    private static void placesAtTheEdges() {
        EggGarden g = Check.garden("garden 1 1;child a 0 0 9 0 0;");
        Check.due("two in one cell", g.place(2, 0, 0, 1, 0), -3);
        Check.due("one in one cell", g.place(1, 0, 0, 1, 0), 0);
        int[][] wrong = {{0, 0, 0, 1, 0}, {3, 0, 0, 1, 0}, {1, -1, 0, 1, 0}, {1, 4, 0, 1, 0}, {1, 0, -1, 1, 0},
            {1, 0, 10, 1, 0}, {1, 0, 0, 0, 0}, {1, 0, 0, 41, 0}, {1, 0, 0, 1, -1}, {1, 0, 0, 1, 3}};
        for (int[] w : wrong) {
            Check.due("place of none such", g.place(w[0], w[1], w[2], w[3], w[4]), EggGarden.NONE);
        }
        Check.due("no children", Check.garden("garden 1 1;").place(1, 0, 0, 1, 0), EggGarden.NONE);
        EggGarden melts = Check.garden("garden 2 1;egg red 1 0 0;egg red 1 0 0;sun 0;child a 0 0 9 1 0;child b 0 0 9 0 0;");
        Check.due("what is there melts, too", melts.place(1, 0, 9, 3, 0), 0);
        EggGarden tree = Check.garden("garden 2 1;tree 1 0;child a 1 0 5 0 0;child b 0 0 5 0 0;");
        Check.due("a can't see it in the tree, b sees the other one", tree.place(2, 0, 4, 3, 0), 1);
        EggGarden full = Check.garden("garden 8 6;child a 0 0 9 3 0;child b 7 5 9 3 0;child c 7 0 3 1 0;child d 0 5 3 2 0;");
        for (int i = 0; i < 16; i++) {
            full.hide(i * 3, i % 4, i % 6);
        }
        Check.due("two more than 16", full.place(2, 1, 0, 40, 0) >= 0, true);
        Check.due("eggs stay", full.count(2), 16);
    }

    private static void laters() {
        EggGarden g = Check.garden("garden 5 1;egg red 1 0 0;egg red 2 0 0;egg red 3 0 0;egg red 4 0 0;"
                + "child a 4 0 5 1 0;child b 0 0 9 3 0;child c 0 0 9 0 99;");
        Check.due("unlike if all goes as it is", g.tears(0, 5) > 0, true);
        int least = g.later(5, 1);
        Check.due("unlike", least, 3);
        Check.due("seconds", g.later(5, 0), 0);
        EggGarden two = Check.garden("garden 5 1;egg red 1 0 0;egg red 2 0 0;egg red 3 0 0;egg red 4 0 0;"
                + "child a 4 0 5 1 0;child b 0 0 9 1 0;");
        Check.due("a takes 4, 3, 2 and b no more than 1", two.later(5, 0), 0);
        Check.due("unlike", two.later(5, 1), 2);
        EggGarden fast = Check.garden("garden 3 1;egg red 1 0 0;egg red 2 0 0;child a 2 0 5 0 2;child b 0 0 9 1 0;");
        // b is at 1 in second 1 and at 2 in second 2, where a, who is first, takes the egg.
        Check.due("alike as it is", fast.later(9, 1), 0);
        EggGarden late = Check.garden("garden 3 1;egg red 1 0 0;egg red 2 0 0;child a 2 0 5 0 3;child b 0 0 9 1 0;");
        Check.due("one second later", late.later(9, 0), 1);
        Check.due("then alike", late.later(9, 1), 0);
        Check.due("of the oldest the first, b and not c", Check.garden("garden 3 1;egg red 1 0 0;egg red 2 0 0;"
                + "child a 2 0 5 0 3;child b 0 0 9 1 0;child c 0 0 9 0 0;").later(9, 0), 1);
        // b leaves one to a if a comes first, or as soon as b.
        String greedy = "garden 1 1;egg red 0 0 0;egg red 0 0 0;child b 0 0 9 0 0;law see 100-many*60*(age<8);";
        EggGarden last = Check.garden(greedy.replace("child b", "child a 0 0 5 0 30;child b"));
        Check.due("thirty seconds later", last.later(50, 0), 30);
        Check.due("then alike", last.later(50, 1), 0);
        EggGarden never = Check.garden(greedy.replace("child b", "child a 0 0 5 0 31;child b"));
        Check.due("thirty are not enough", never.later(50, 0), 0);
        Check.due("so unlike", never.later(50, 1), 2);
        Check.due("later(0, 0)", g.later(0, 0), EggGarden.NONE);
        Check.due("later(201, 0)", g.later(201, 0), EggGarden.NONE);
        Check.due("later(200, 0)", g.later(200, 0) >= 0, true);
        Check.due("later(1, 2)", g.later(1, 2), EggGarden.NONE);
        Check.due("later(1, -1)", g.later(1, -1), EggGarden.NONE);
        Check.due("no children", new EggGarden().later(1, 0), EggGarden.NONE);
    }

    private static void tearsAndKindest() {
        EggGarden g = Check.garden("garden 2 2;egg red 0 0 0;egg blue 0 0 0;egg blue 0 0 6;child a 0 0 9 0 0;"
                + "child b 0 0 9 0 0;child c 1 1 9 0 0;");
        Check.due("tears(0, 1)", g.tears(0, 1), 4);
        Check.due("tears(1, 1)", g.tears(1, 1), 1);
        Check.due("tears(2, 1)", g.tears(2, 1), 4);
        Check.due("kindest(1)", g.kindest(1), 1);
        Check.due("tears(3, 1)", g.tears(3, 1), EggGarden.NONE);
        Check.due("tears(-1, 1)", g.tears(-1, 1), EggGarden.NONE);
        Check.due("tears(0, 0)", g.tears(0, 0), EggGarden.NONE);
        Check.due("tears(0, 201)", g.tears(0, 201), EggGarden.NONE);
        Check.due("tears(0, 200)", g.tears(0, 200), 4);
        Check.due("kindest(0)", g.kindest(0), EggGarden.NONE);
        Check.due("kindest(201)", g.kindest(201), EggGarden.NONE);
        Check.due("kindest(200)", g.kindest(200), 1);
        EggGarden line = Check.garden("garden 1 2;line 1;egg red 0 0 0;egg red 0 0 0;egg red 0 1 0;"
                + "child a 0 1 9 1 0;child b 0 1 5 1 1;");
        Check.due("the big one takes all", line.tears(0, 4), 3);
        Check.due("behind the line the small one has more", line.tears(2, 4), 1);
        Check.due("kindest", line.kindest(4), 2);
        Check.due("the rule stays", line.count(11), 0);
        EggGarden eager = Check.garden("garden 1 1;egg red 0 0 9;egg red 0 0 0;child a 0 0 9 0 0;child b 0 0 9 0 9;"
                + "law see 100*(hard=0)+many*60;");
        Check.due("who has one looks better the next time", eager.tears(0, 1), 1);
        Check.due("who has one looks better the next time", eager.tears(0, 2), 2);
        EggGarden same = Check.garden("child a 0 0 9 0 0;child b 0 0 9 0 0;");
        Check.due("the first of several", same.kindest(3), 0);
    }

    private static void rests(String text, int... want) {
        EggGarden g = Check.garden(text);
        Check.due("rests of " + text, g.rests(), want.length);
        for (int k = 0; k < want.length; k++) {
            Check.due("rest(" + k + ") of " + text, g.rest(k), want[k]);
        }
        Check.due("no more", g.rest(want.length), -2);
        Check.due("rest(-1)", g.rest(-1), EggGarden.NONE);
        Check.due("rest(max)", g.rest(Integer.MAX_VALUE), -2);
    }

    private static void bushes() {
        rests("garden 1 1;", 0);
        rests("garden 2 1;", 1, 10);
        rests("garden 2 1;tree 1 0;", 0);
        rests("garden 2 1;bush 1 0;", 0, 1, 10);
        // 4000, 3000, 2000, 1000: the best one and the second best.
        rests("garden 4 1;pot 1 0;tree 0 0;bush 3 0;", 1, 10);
        // Of 4000, 4000, 3000, 3000 none shares.
        rests("garden 5 1;tree 1 0;tree 2 0;pot 3 0;pot 4 0;", 1, 10);
        rests("garden 3 1;law hide 0;", 0, 1, 2, 10, 11, 12, 20, 21, 22);
        // 1 is halved to 0, cut.
        EggGarden g = Check.garden("garden 2 1;tree 0 0;child a 0 0 9 0 0;");
        Check.due("4000 and 1000", g.rests(), 1);
        g.go(1);
        Check.due("2000 and 1000", g.rests(), 3);
        g.go(1);
        Check.due("1000 and 1000, by WEIGHT now", g.rests(), 2);
    }

    private static void likenesses() {
        EggGarden g = Check.garden("garden 4 1;bush 1 0;pot 2 0;tree 3 0;child a 0 0 9 1 0;");
        Check.due("30/100", g.alike(0), 3);
        Check.due("30/100", g.alike(1), 10);
        g.go(9);
        Check.due("without LOOKS", g.alike(1), 10);
        Check.due("alike(2)", g.alike(2), EggGarden.NONE);
        Check.due("alike(-1)", g.alike(-1), EggGarden.NONE);
        EggGarden zero = Check.garden("garden 4 1;law hide 0;");
        Check.due("all is 0", zero.alike(0), EggGarden.NONE);
        Check.due("all is 0", zero.alike(1), EggGarden.NONE);
        EggGarden one = Check.garden("garden 1 1;");
        Check.due("1/1", one.alike(0), 1);
        Check.due("1/1", one.alike(1), 1);
        EggGarden big = Check.garden("garden 8 6;bush 0 0;law hide 999-kind;");
        Check.due("998 once, 999 47 times", big.alike(0), 47L * 999 * 999 + 998L * 998);
        Check.due("below", big.alike(1), (47L * 999 + 998) * (47L * 999 + 998));
    }

    private static void forgetting() {
        EggGarden g = Check.garden("garden 2 1;egg red 0 0 3;egg gold 1 0 9;egg gold 1 0 8;law keep 100-many*hard;"
                + "child a 0 0 9 0 3;");
        Check.due("at second 0", g.forgot(), 0);
        g.go(2);
        Check.due("at second 2", g.forgot(), 6 + 18 + 16);
        g.go(18);
        Check.due("red is found by now", g.egg(0, 3), 0);
        Check.due("at least 0 is kept", g.forgot(), 200);
        Check.due("without a law", Check.garden("egg red 0 0 3;").forgot(), 0);
        Check.due("with an error", Check.garden("egg red 0 0 3;law keep 1/(3-hard);").forgot(), 0);
        Check.due("at most 100", Check.garden("egg red 0 0 3;law keep 9999;").forgot(), 0);
        Check.due("of all", Check.garden("egg red 0 0 3;egg blue 0 0 3;law keep 40+color;").forgot(), 60 + 59);
    }

    private static void worths() {
        EggGarden g = Check.garden("egg red 0 0 3;egg gold 0 0 3;child a 0 0 9 0 0;child b 0 0 9 0 0;");
        Check.due("mine", g.worth(0, 0), 20);
        Check.due("not mine", g.worth(0, 1), 10);
        Check.due("not mine", g.worth(1, 0), 10);
        Check.due("worth(2, 0)", g.worth(2, 0), EggGarden.NONE);
        Check.due("worth(-1, 0)", g.worth(-1, 0), EggGarden.NONE);
        Check.due("worth(0, 2)", g.worth(0, 2), EggGarden.NONE);
        Check.due("worth(0, -1)", g.worth(0, -1), EggGarden.NONE);
        EggGarden law = Check.garden("garden 1 1;egg red 0 0 0;egg gold 0 0 0;egg blue 0 0 9;child a 0 0 9 0 0;"
                + "law joy (hard=0)*1500/(3-color)-700*(hard=9)+many*7;");
        Check.due("with an error", law.worth(0, 1), 10);
        Check.due("500", law.worth(0, 0), 500);
        Check.due("0 at least", law.worth(0, 2), 0);
        law.go(1);
        Check.due("has two or three", law.child(0, 1) >= 2, true);
        Check.due("many 0", law.worth(0, 0), 500);
        EggGarden rich = Check.garden("egg red 0 0 0;child a 0 0 9 0 0;law joy 1000;");
        Check.due("999 at most", rich.worth(0, 0), 999);
    }

    private static void trades() {
        EggGarden g = Check.garden("garden 3 1;egg gold 0 0 0;egg blue 0 0 0;egg green 0 0 0;egg red 1 0 0;egg blue 1 0 0;"
                + "egg red 2 0 0;egg gold 2 0 0;child a 0 0 9 0 0;child b 1 0 9 0 0;child c 2 0 9 0 0;");
        Check.due("nobody has any", g.trade(0), -2);
        g.go(1);
        // a's blue for b's red: both like their own colour.
        int[] want = {0, 1, 1, 3};
        for (int what = 0; what < 4; what++) {
            Check.due("trade(" + what + ")", g.trade(what), want[what]);
        }
        Check.due("trade(4)", g.trade(4), EggGarden.NONE);
        Check.due("trade(-1)", g.trade(-1), EggGarden.NONE);
        EggGarden none = Check.garden("garden 2 1;egg gold 0 0 0;egg red 1 0 0;child a 0 0 9 0 0;child b 1 0 9 0 0;");
        none.go(1);
        Check.due("only one has more", none.trade(0), -2);
        Check.due("only one has more", none.trade(3), -2);
        EggGarden even = Check.garden("garden 2 1;egg blue 0 0 0;egg green 1 0 0;child a 0 0 9 0 0;child b 1 0 9 0 0;");
        even.go(1);
        Check.due("to a both are worth the same", even.trade(0), -2);
        EggGarden other = Check.garden("garden 2 1;egg green 0 0 0;egg red 1 0 0;child a 0 0 9 0 0;child b 1 0 9 0 0;");
        other.go(1);
        Check.due("to b both are worth the same", other.trade(0), -2);
    }

    private static void sharing() {
        EggGarden g = Check.garden("garden 1 1;egg gold 0 0 0;egg blue 0 0 0;egg red 0 0 0;egg green 0 0 9;egg green 0 0 0;"
                + "child a 0 0 9 0 0;child b 0 0 9 0 9;seed 5;law see 100-hard*20;");
        g.go(1);
        // Gold 10 to a, blue 20 to b, red 20 to a (30), green 10 to b (30).
        int[] want = {0, 1, 0, -2, 1};
        for (int e = 0; e < 5; e++) {
            Check.due("shared(" + e + ")", g.shared(e), want[e]);
        }
        Check.due("shared(5)", g.shared(5), EggGarden.NONE);
        Check.due("shared(-1)", g.shared(-1), EggGarden.NONE);
        Check.due("nobody's", Check.garden("egg red 0 0 0;child a 0 0 9 0 0;").shared(0), -2);
    }

    private static void thoughtsChangeNothing() {
        EggGarden g = Check.garden("garden 5 5;egg red 1 1 2;egg blue 2 2 4;egg gold 3 3 6;child a 0 0 5 2 0;"
                + "child b 4 4 12 1 2;dog 3;sun 7;seed 99;law see 90-hard*9+age-many*20;law keep 100-many;");
        EggGarden h = Check.garden("garden 5 5;egg red 1 1 2;egg blue 2 2 4;egg gold 3 3 6;child a 0 0 5 2 0;"
                + "child b 4 4 12 1 2;dog 3;sun 7;seed 99;law see 90-hard*9+age-many*20;law keep 100-many;");
        for (int i = 0; i < 9; i++) {
            g.place(2, 1, 1, 20, 0);
            g.later(30, 0);
            g.tears(2, 50);
            g.kindest(50);
            g.chance(7, 50, 0, 1);
            g.tried(0, 0, 50);
            g.tried(2, 1, 50);
            g.starts(1);
            g.stop(0, 100);
            g.go(1);
            h.go(1);
            for (int e = 0; e < 3; e++) {
                Check.due("egg " + e, g.egg(e, 3), h.egg(e, 3));
            }
            for (int c = 0; c < 2; c++) {
                for (int what = 0; what < 5; what++) {
                    Check.due("child " + c + ", " + what, g.child(c, what), h.child(c, what));
                }
            }
            for (int cell = 0; cell < 25; cell++) {
                Check.due("weight " + cell, g.weight(cell), h.weight(cell));
            }
        }
    }
}
