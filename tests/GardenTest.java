import java.util.NoSuchElementException;

/** Promises 6 to 15: cell, egg, child, odds, law, hide, take, set, rule, go; and SECONDS of the Terms. */
public final class GardenTest {
    public static void main(String[] args) {
        cells();
        eggsAndChildren();
        oddsWithoutLaw();
        oddsByLaw();
        laws();
        values();
        errors();
        hiding();
        setting();
        rules();
        seconds();
        walking();
        ownColors();
        behindTheLine();
        numbers();
        dogAndSun();
        goEdges();
        Check.end();
    }

    private static int thrown(EggGarden g, int cell, int what) {
        try {
            g.cell(cell, what);
            return 0;
        } catch (IndexOutOfBoundsException e) {
            return e.getClass() == IndexOutOfBoundsException.class ? 1 : 3;
        } catch (NoSuchElementException e) {
            return 2;
        }
    }

    private static void cells() {
        EggGarden g = Check.garden("garden 3 2;bush 0 1;pot 1 1;tree 2 1;egg red 1 0 0;egg red 1 0 9;egg blue 2 1 9;"
                + "child a 1 0 9 1 0;child b 1 0 9 1 9;");
        int[] kinds = {0, 0, 0, 1, 2, 3};
        for (int i = 0; i < 6; i++) {
            Check.due("kind of " + i, g.cell(i, 0), kinds[i]);
        }
        Check.due("hidden at 1", g.cell(1, 1), 2);
        Check.due("children at 1", g.cell(1, 3), 2);
        Check.due("looked at 1", g.cell(1, 2), 0);
        g.go(1);
        Check.due("hidden at 1 then", g.cell(1, 1), 1);
        Check.due("looked at 1 then", g.cell(1, 2), 1);
        Check.due("children at 1 then", g.cell(1, 3), 1);
        Check.due("children at 0 then", g.cell(0, 3), 1);
        Check.due("cell(-1)", thrown(g, -1, 0), 1);
        Check.due("cell(6)", thrown(g, 6, 0), 1);
        Check.due("cell(max)", thrown(g, Integer.MAX_VALUE, 0), 1);
        Check.due("cell(6, 4)", thrown(g, 6, 4), 1);
        Check.due("cell(5, 4)", thrown(g, 5, 4), 2);
        Check.due("cell(5, -1)", thrown(g, 5, -1), 2);
        Check.due("cell(5, 3)", thrown(g, 5, 3), 0);
    }

    private static void eggsAndChildren() {
        EggGarden g = Check.garden("garden 3 2;egg red 1 0 0;egg gold 2 1 7;egg green 1 0 0;child a 1 0 9 1 0;"
                + "child b 2 1 9 0 9;");
        Check.due("egg cell", g.egg(1, 0), 5);
        Check.due("egg color", g.egg(1, 1), 3);
        Check.due("egg hard", g.egg(1, 2), 7);
        Check.due("egg whose", g.egg(1, 3), -1);
        Check.due("egg(1, 4)", g.egg(1, 4), -4);
        Check.due("egg(1, -1)", g.egg(1, -1), -4);
        Check.due("egg(3, 0)", g.egg(3, 0), -4);
        Check.due("egg(-1, 0)", g.egg(-1, 0), -4);
        g.go(2);
        Check.due("whose 0", g.egg(0, 3), 0);
        Check.due("whose 2", g.egg(2, 3), 0);
        Check.due("cell where it was hidden", g.egg(2, 0), 1);
        Check.due("child cell", g.child(0, 0), 3);
        Check.due("child eggs", g.child(0, 1), 2);
        Check.due("child which", g.child(0, 2), 5);
        Check.due("child looks", g.child(0, 3), 2);
        Check.due("child worth", g.child(0, 4), 30);
        Check.due("child(0, 5)", g.child(0, 5), EggGarden.NONE);
        Check.due("child(0, -1)", g.child(0, -1), EggGarden.NONE);
        Check.due("child(2, 0)", g.child(2, 0), EggGarden.NONE);
        Check.due("child(-1, 0)", g.child(-1, 0), EggGarden.NONE);
        Check.due("b stands", g.child(1, 0), 5);
        Check.due("b hasn't looked", g.child(1, 3), 0);
    }

    private static void oddsWithoutLaw() {
        EggGarden g = Check.garden("garden 4 1;bush 1 0;pot 2 0;tree 3 0;egg red 0 0 3;egg red 1 0 3;egg red 2 0 3;"
                + "egg red 3 0 3;egg red 3 0 9;egg red 3 0 8;child a 0 0 7 1 0;child b 0 0 8 1 0;");
        int[] young = {70, 70, 70, 50, 0, 0};
        int[] big = {70, 70, 70, 70, 10, 20};
        for (int e = 0; e < 6; e++) {
            Check.due("odds(0, " + e + ")", g.odds(0, e), young[e]);
            Check.due("odds(1, " + e + ")", g.odds(1, e), big[e]);
        }
        Check.due("odds(2, 0)", g.odds(2, 0), EggGarden.NONE);
        Check.due("odds(-1, 0)", g.odds(-1, 0), EggGarden.NONE);
        Check.due("odds(0, 6)", g.odds(0, 6), EggGarden.NONE);
        Check.due("odds(0, -1)", g.odds(0, -1), EggGarden.NONE);
    }

    private static void oddsByLaw() {
        EggGarden g = Check.garden("garden 2 1;egg red 0 0 1;egg red 0 0 2;egg blue 1 0 3;child a 0 0 7 0 0;"
                + "law see 100-many*60;");
        Check.due("odds of one who has none", g.odds(0, 2), 100);
        g.go(1);
        // The second EGG of the same LOOK is looked for by one who has the first.
        Check.due("has", g.child(0, 1) >= 1 ? 1 : 0, 1);
        Check.due("odds of one who has some", g.odds(0, 2), g.child(0, 1) == 1 ? 40 : 0);
        EggGarden bounds = Check.garden("garden 2 1;egg red 0 0 1;egg red 1 0 2;child a 0 0 7 0 0;"
                + "law see(hard=1)*101-(hard=2);");
        Check.due("odds at most 100", bounds.odds(0, 0), 100);
        Check.due("odds at least 0", bounds.odds(0, 1), 0);
        Check.due("the law itself", bounds.law(0, 0, 0), 101);
        Check.due("the law itself", bounds.law(0, 0, 1), -1);
        EggGarden error = Check.garden("egg red 0 0 3;child a 0 0 7 0 0;law see 50/(hard-3);");
        Check.due("odds with an error", error.odds(0, 0), 70);
        Check.due("the law's error", error.law(0, 0, 0), Long.MIN_VALUE);
    }

    private static void laws() {
        String far = "((((age*10+hard)*10+kind)*10+color)*10+mine)*10+row";
        String told = "garden 2 3;pot 1 2;egg blue 1 2 4;egg red 0 1 3;egg green 1 2 0;child a 0 0 7 0 0;"
                + "child b 1 2 9 0 0;";
        EggGarden j = Check.garden(told + "law joy " + far + ";");
        Check.due("joy of b", j.law(1, 1, 0), 942112);
        Check.due("joy of a", j.law(1, 0, 0), 742102);
        EggGarden h = Check.garden(told + "law see (" + far + ")*10+many;law hide (" + far + ")*10+many;"
                + "law keep (kind*10+color)*1000+many;");
        Check.due("see of a", h.law(0, 0, 0), 7421020);
        Check.due("see of b", h.law(0, 1, 0), 9421120);
        Check.due("see of a, red", h.law(0, 0, 1), 7300110);
        Check.due("hide of a cell", h.law(2, 5, 99), 20020);
        Check.due("keep of an egg", h.law(3, 0, -7), 21000);
        h.go(3);
        Check.due("keep after 3 seconds", h.law(3, 0, 0), 21003);
        Check.due("see of b who has two", h.law(0, 1, 0), 9421122);
        Check.due("law(4)", h.law(4, 0, 0), Long.MIN_VALUE);
        Check.due("law(-1)", h.law(-1, 0, 0), Long.MIN_VALUE);
        Check.due("law of no child", h.law(0, 2, 0), Long.MIN_VALUE);
        Check.due("law of no egg", h.law(1, 0, 3), Long.MIN_VALUE);
        Check.due("law of no cell", h.law(2, 6, 0), Long.MIN_VALUE);
        Check.due("law of no egg", h.law(3, 3, 0), Long.MIN_VALUE);
        Check.due("law of no egg", h.law(3, -1, 0), Long.MIN_VALUE);
        EggGarden none = Check.garden("egg red 0 0 0;child a 0 0 1 1 1;");
        for (int what = 0; what < 4; what++) {
            Check.due("no law " + what, none.law(what, 0, 0), Long.MIN_VALUE);
        }
    }

    private static void value(String e, long want) {
        EggGarden g = new EggGarden();
        Check.due("text of " + e, Check.tell(g, "law hide " + e + ";"), 1);
        Check.due(e, g.law(2, 0, 0), want);
    }

    private static void values() {
        value("7", 7);
        value("1+2*3", 7);
        value("(1+2)*3", 9);
        value("10-4-3", 3);
        value("100/10/5", 2);
        value("100/10*5", 50);
        value("(0-7)/2", -3);
        value("7/(0-2)", -3);
        value("1<2", 1);
        value("2<2", 0);
        value("2<=2", 1);
        value("3<=2", 0);
        value("2=2", 1);
        value("2=3", 0);
        value("2<>2", 0);
        value("2<>3", 1);
        value("2>=3", 0);
        value("3>=3", 1);
        value("3>2", 1);
        value("2>2", 0);
        value("1+1=2", 1);
        value("not 0", 1);
        value("not 7", 0);
        value("not not 7", 1);
        value("not 1=2", 1);
        value("not(1=2)=1", 1);
        value("not(1=2)=0", 0);
        value("not 0 and 0", 0);
        value("5 and 7", 1);
        value("5 and 0", 0);
        value("0 or 9", 1);
        value("0 or 0", 0);
        value("1 or 0 and 0", 1);
        value("(1 or 0)and 0", 0);
        value("2 or 1 = 3", 1);
        value("(2<3)+(3<4)", 2);
        value("3-(2-1)", 2);
        value("2*(3+4)*5", 70);
        value("0000009999", 9999);
        value("9999*9999*9999", 999700029999L);
    }

    private static void errors() {
        value("1/0", Long.MIN_VALUE);
        value("0*(1/0)", Long.MIN_VALUE);
        value("1 or 1/0", Long.MIN_VALUE);
        value("0 and 1/0", Long.MIN_VALUE);
        value("9999*9999*9999*2", Long.MIN_VALUE);
        value("(9999*9999*9999*2)*0", Long.MIN_VALUE);
        value("1000*1000*1000*1000", 1000000000000L);
        value("1000*1000*1000*1000+1", Long.MIN_VALUE);
        value("1000*1000*1000*1000+0", 1000000000000L);
        value("0-1000*1000*1000*1000", -1000000000000L);
        value("0-1000*1000*1000*1000-1", Long.MIN_VALUE);
        value("(0-1000*1000)*1000*1000", -1000000000000L);
        value("(1000*1000*1000*1000)*(1000*1000*1000*1000)", Long.MIN_VALUE);
        value("(1000*1000*1000*1000)*(0-1000*1000*1000*1000)", Long.MIN_VALUE);
        value("(1000*1000*1000*1000)*(1000*1000*1000*1000)<1", Long.MIN_VALUE);
    }

    private static void hiding() {
        EggGarden g = Check.garden("garden 2 1;egg red 0 0 0;child a 1 0 9 0 0;");
        Check.due("take of the text's", g.take(), false);
        Check.due("hide(-1, 0, 0)", g.hide(-1, 0, 0), EggGarden.NONE);
        Check.due("hide(2, 0, 0)", g.hide(2, 0, 0), EggGarden.NONE);
        Check.due("hide(0, 4, 0)", g.hide(0, 4, 0), EggGarden.NONE);
        Check.due("hide(0, -1, 0)", g.hide(0, -1, 0), EggGarden.NONE);
        Check.due("hide(0, 0, 10)", g.hide(0, 0, 10), EggGarden.NONE);
        Check.due("hide(0, 0, -1)", g.hide(0, 0, -1), EggGarden.NONE);
        Check.due("what can't be hidden can't be undone", g.count(14), 0);
        for (int i = 1; i < 16; i++) {
            Check.due("hide the " + i, g.hide(0, i % 4, 9), i);
        }
        Check.due("hide a 17th", g.hide(0, 0, 0), EggGarden.NONE);
        Check.due("eggs", g.count(2), 16);
        Check.due("color of the last", g.egg(15, 1), 3);
        for (int i = 1; i < 16; i++) {
            Check.due("take the " + i, g.take(), true);
        }
        Check.due("take the text's", g.take(), false);
        Check.due("hide again", g.hide(1, 2, 0), 1);
        g.go(1);
        Check.due("found", g.egg(1, 3), 0);
        Check.due("take what isn't hidden any more", g.take(), false);
        Check.due("hide one more", g.hide(1, 2, 0), 2);
        Check.due("take it behind a second", g.take(), true);
        Check.due("the one ahead of it is found", g.take(), false);
    }

    private static void setting() {
        EggGarden g = Check.garden("garden 2 2;child a 0 0 9 0 0;line 2;rule behind;");
        Check.due("set(0, 3)", g.set(0, 3), true);
        Check.due("cell", g.child(0, 0), 3);
        Check.due("set there again", g.set(0, 3), false);
        Check.due("set(0, 4)", g.set(0, 4), false);
        Check.due("set(0, -1)", g.set(0, -1), false);
        Check.due("set(1, 0)", g.set(1, 0), false);
        Check.due("set(-1, 0)", g.set(-1, 0), false);
        Check.due("to be undone", g.count(14), 1);
    }

    private static void rules() {
        EggGarden g = Check.garden("rule own;");
        Check.due("rule(1)", g.rule(1), false);
        Check.due("rule(3)", g.rule(3), false);
        Check.due("rule(-1)", g.rule(-1), false);
        Check.due("rule(2)", g.rule(2), true);
        Check.due("count(11)", g.count(11), 2);
        Check.due("rule(0)", g.rule(0), true);
        Check.due("count(11)", g.count(11), 0);
    }

    private static void seconds() {
        EggGarden g = Check.garden("garden 3 1;egg red 0 0 0;egg red 0 0 0;child a 0 0 9 0 0;child b 0 0 9 0 0;"
                + "child c 0 0 9 1 2;");
        Check.due("go(0)", g.go(0), 0);
        Check.due("nobody looked", g.count(10), 0);
        Check.due("go(1)", g.go(1), 1);
        Check.due("the first child is first", g.child(0, 2), 3);
        Check.due("c hasn't started", g.child(2, 3), 0);
        Check.due("go(2)", g.go(2), 3);
        Check.due("c started at 2", g.child(2, 3), 1);
        Check.due("c walked", g.child(2, 0), 1);
        Check.due("looks of a", g.child(0, 3), 3);
        Check.due("cells looked at", g.count(10), 1);
    }

    private static void walking() {
        // The nearest, of several the first; along x first, then y; asked anew behind each STEP.
        EggGarden g = Check.garden("garden 3 3;child a 1 1 9 1 0;");
        int[] want = {1, 0, 3, 6, 7, 8, 5, 2, 2, 2};
        for (int i = 0; i < want.length; i++) {
            g.go(1);
            Check.due("step " + i, g.child(0, 0), want[i]);
        }
        Check.due("all looked at", g.count(10), 9);
        EggGarden fast = Check.garden("garden 8 6;child a 0 0 9 3 0;");
        fast.go(1);
        Check.due("it stays at the nearest", fast.child(0, 0), 1);
        EggGarden far = Check.garden("garden 8 6;child a 0 0 9 3 5;child b 1 0 9 0 0;child c 0 1 9 0 0;");
        far.go(5);
        Check.due("looked at by b and c alone", far.count(10), 2);
        far.go(1);
        Check.due("two STEPS to 2, along x", far.child(0, 0), 2);
        far.set(0, 0);
        far.go(1);
        Check.due("two STEPS to 9, along x, then y", far.child(0, 0), 2);
        far.go(1);
        far.set(0, 0);
        far.go(1);
        Check.due("then it's 9: x first, then y", far.child(0, 0), 9);
    }

    private static void ownColors() {
        EggGarden g = Check.garden("garden 2 1;egg red 0 0 0;egg blue 0 0 0;egg green 0 0 0;egg gold 0 0 0;rule own;"
                + "child a 1 0 9 0 0;child b 0 0 9 0 0;child c 1 0 9 0 0;child d 0 0 9 0 0;");
        g.go(1);
        Check.due("red is a's, who isn't there", g.egg(0, 3), -1);
        Check.due("blue is b's", g.egg(1, 3), 1);
        Check.due("green is c's, who isn't there", g.egg(2, 3), -1);
        Check.due("gold is d's", g.egg(3, 3), 3);
        g.rule(0);
        g.go(1);
        Check.due("red now", g.egg(0, 3), 1);
        Check.due("green now", g.egg(2, 3), 1);
    }

    private static void behindTheLine() {
        String text = "garden 2 3;line 2;rule behind;child a 0 2 8 1 0;child b 1 2 7 1 0;";
        EggGarden g = Check.garden(text);
        g.go(3);
        Check.due("the big one stays behind the line", g.child(0, 0), 4);
        Check.due("the small one went beyond", g.child(1, 0) < 4 ? 1 : 0, 1);
        Check.due("next of the big one", g.next(0), 5);
        g.set(0, 0);
        g.go(1);
        Check.due("set beyond it stays, as there is none left", g.child(0, 0), 0);
        Check.due("but looks where it stands", g.cell(0, 2), 1);
        EggGarden none = Check.garden("garden 2 1;line 1;rule behind;child a 0 0 8 1 0;child b 0 0 7 1 0;");
        Check.due("next, it may go nowhere", none.next(0), EggGarden.NONE);
        Check.due("stop, it may go nowhere", none.stop(0, 1), 0);
        Check.due("next of the small one", none.next(1), 0);
        none.rule(0);
        Check.due("next by another rule", none.next(0), 0);
    }

    private static void numbers() {
        // Told by the numbers themselves: times 1103515245 and 12345, 31 bits, by 65536.
        long number = 4711;
        boolean[] found = new boolean[12];
        StringBuilder text = new StringBuilder("garden 1 1;seed 4711;child a 0 0 9 0 0;");
        for (int i = 0; i < 12; i++) {
            text.append("egg red 0 0 ").append(5 + i % 2).append(';');
        }
        EggGarden g = Check.garden(text.toString());
        for (int second = 0; second < 4; second++) {
            for (int i = 0; i < 12; i++) {
                if (!found[i]) {
                    number = (number * 1103515245L + 12345L) & 0x7fffffffL;
                    found[i] = number / 65536 % 100 < 50 - 10 * (i % 2);
                }
            }
            g.go(1);
            for (int i = 0; i < 12; i++) {
                Check.due("second " + second + ", egg " + i, g.egg(i, 3), found[i] ? 0 : -1);
            }
        }
    }

    private static void dogAndSun() {
        EggGarden g = Check.garden("garden 1 1;dog 2;sun 5;egg red 0 0 9;egg red 0 0 9;egg red 0 0 9;egg red 0 0 9;");
        int[] dogs = {0, 0, 1, 1, 2, 2, 2, 2};
        int[] melted = {0, 0, 0, 0, 0, 2, 2, 2};
        for (int t = 0; t < dogs.length; t++) {
            g.go(1);
            Check.due("the dog's behind second " + t, g.count(8), dogs[t]);
            Check.due("melted behind second " + t, g.count(9), melted[t]);
        }
        Check.due("the first is the dog's", g.egg(0, 3), -2);
        Check.due("the last is melted", g.egg(3, 3), -3);
        EggGarden shade = Check.garden("garden 4 1;sun 0;bush 0 0;pot 1 0;tree 2 0;egg red 0 0 0;egg red 1 0 0;"
                + "egg red 2 0 0;egg red 3 0 0;");
        shade.go(1);
        Check.due("melted on grass alone", shade.count(9), 1);
        Check.due("it is on grass", shade.egg(3, 3), -3);
        EggGarden late = Check.garden("garden 1 1;sun 3;egg red 0 0 0;child a 0 0 9 0 3;");
        late.go(4);
        Check.due("a look in the sun's second comes first", late.egg(0, 3), 0);
    }

    private static void goEdges() {
        EggGarden g = new EggGarden();
        Check.due("go(-1)", g.go(-1), EggGarden.NONE);
        Check.due("go(201)", g.go(201), EggGarden.NONE);
        Check.due("go(max)", g.go(Integer.MAX_VALUE), EggGarden.NONE);
        for (int i = 1; i < 50; i++) {
            Check.due("go(200)", g.go(200), 200 * i);
        }
        Check.due("go(200) beyond 9999", g.go(200), EggGarden.NONE);
        Check.due("none went by", g.count(5), 9800);
        Check.due("go(199)", g.go(199), 9999);
        Check.due("go(1)", g.go(1), EggGarden.NONE);
        Check.due("go(0)", g.go(0), 9999);
    }
}
