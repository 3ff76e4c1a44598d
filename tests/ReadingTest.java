/** Promises 1 to 5: a new object, feed, text, fault, named; and the TEXT of the Terms. */
public final class ReadingTest {
    public static void main(String[] args) {
        newObject();
        feeding();
        texts();
        faultsOfTokens();
        faultsOfNumbers();
        faultsOfTooMany();
        faultsOfTwice();
        faultsOfLaws();
        firstFaultCounts();
        cutTexts();
        names();
        Check.end();
    }

    private static void newObject() {
        EggGarden g = new EggGarden();
        int[] want = {6, 5, 0, 0, 0, 0, 0, 0, 0, 0, 0, 0, 0, 0, 0, 0};
        for (int what = 0; what < want.length; what++) {
            Check.due("new count(" + what + ")", g.count(what), want[what]);
        }
        for (int cell = 0; cell < 30; cell++) {
            for (int what = 0; what < 4; what++) {
                Check.due("new cell(" + cell + ", " + what + ")", g.cell(cell, what), 0);
            }
        }
        Check.due("new fault(0)", g.fault(0), 0);
        Check.due("new fault(1)", g.fault(1), EggGarden.NONE);
        Check.due("new text(1)", g.text(1), -2);
        Check.due("new text(0)", g.text(0), 0);
        Check.due("new undo", g.undo(), EggGarden.NONE);
        Check.due("new back", g.back(), EggGarden.NONE);
    }

    private static void feeding() {
        EggGarden g = new EggGarden();
        for (int i = 1; i <= 35; i++) {
            Check.due("feed " + i, g.feed(0x20202020, 0x0a0a0a0a, 0x20202020, 0x20202020, 0x20202020), 20 * i);
        }
        Check.due("feed beyond 700", g.feed(0, 0, 0, 0, 0), EggGarden.NONE);
        Check.due("text beyond 700", g.text(701), -2);
        Check.due("text of all", g.text(700), 0);
        Check.due("feed of the emptied", g.feed(0, 0, 0, 0, 0), 20);
        Check.due("a byte 0", g.text(20), EggGarden.NONE);
        Check.due("its fault", g.fault(0), 1);
        Check.due("its place", g.fault(1), 0);
        // The highest byte comes first.
        Check.due("feed sun 7;", g.feed(0x73756e20, 0x373b2020, 0x20202020, 0x20202020, 0xa0202020), 20);
        Check.due("text up to the wrong byte", g.text(16), 1);
        Check.due("feed again", g.feed(0x73756e20, 0x373b2020, 0x20202020, 0x20202020, 0xa0202020), 20);
        Check.due("text with the byte 160", g.text(17), EggGarden.NONE);
        Check.due("its place", g.fault(1), 16);
    }

    private static void texts() {
        EggGarden g = Check.garden("garden 8 6;child ann 7 5 8 2 3;egg gold 7 5 9;seed 7;");
        Check.due("wide", g.count(0), 8);
        Check.due("high", g.count(1), 6);
        Check.due("the cell", g.child(0, 0), 47);
        g.go(4);
        g.hide(0, 0, 0);
        g.keep();
        g.see(1, 0, 0, true);
        g.see(2, 0, 0, true);
        g.known(1);
        Check.feed(g, "garden 2 2;");
        Check.due("text(-1)", g.text(-1), -2);
        Check.due("text(21)", g.text(21), -2);
        Check.due("fault(0) is of the latest that was not -2", g.fault(0), 0);
        Check.due("the tape stays", g.feed(0x20202020, 0x20202020, 0x20202020, 0x20202020, 0x20202020), 40);
        Check.due("a fault", g.text(10), EggGarden.NONE);
        Check.due("fault(0)", g.fault(0), 1);
        Check.due("fault(1)", g.fault(1), 10);
        Check.due("fault(2)", g.fault(2), EggGarden.NONE);
        Check.due("fault(-1)", g.fault(-1), EggGarden.NONE);
        Check.due("the tape is empty with a fault, too", g.text(1), -2);
        Check.due("fault(0) after -2", g.fault(0), 1);
        Check.due("all stays: wide", g.count(0), 8);
        Check.due("all stays: second", g.count(5), 4);
        Check.due("all stays: eggs", g.count(2), 2);
        Check.due("all stays: seen", g.count(12), 2);
        Check.due("all stays: known", g.count(13), 1);
        Check.due("all stays: undo", g.count(14), 1);
        Check.due("all stays: image", g.back(), 4);
        g.rule(2);
        Check.due("a text anew", Check.tell(g, "garden 8 6;child bob 7 5 8 2 3;child c 0 0 1 0 0;"), 3);
        Check.due("second", g.count(5), 0);
        Check.due("eggs", g.count(2), 0);
        Check.due("looked at", g.count(10), 0);
        Check.due("rule", g.count(11), 0);
        Check.due("seen", g.count(12), 0);
        g.see(1, 0, 0, true);
        g.see(1, 0, 0, true);
        Check.due("all known", g.count(13), 2);
        Check.due("nothing to undo", g.count(14), 0);
        Check.due("no image", g.back(), EggGarden.NONE);
        Check.due("fault(0)", g.fault(0), 0);
        Check.due("fault(1)", g.fault(1), EggGarden.NONE);
        EggGarden blanks = new EggGarden();
        Check.due("blanks and lines", Check.tell(blanks, "\n rule\nown ;\n\nline 3;law see(age)<=0005;  "), 3);
        Check.due("rule", blanks.count(11), 1);
        Check.due("knots", blanks.count(4), 3);
        Check.due("no blanks", Check.tell(blanks, "garden8 6;eggred0 0 0;"), EggGarden.NONE);
        Check.due("eggred is a word", blanks.fault(1), 10);
        Check.due("digits part words", Check.tell(blanks, "garden8 6;egg red0 0 0;"), 2);
    }

    private static void faultsOfTokens() {
        Check.fault(";", 1, 0);
        Check.fault("rule own;;", 1, 9);
        Check.fault("rule own", 1, 8);
        Check.fault("rule own  ", 1, 10);
        Check.fault("rule", 1, 4);
        Check.fault("rule 1;", 1, 5);
        Check.fault("rule red;", 1, 5);
        Check.fault("Rule own;", 1, 0);
        Check.fault("rulee own;", 1, 0);
        Check.fault("rule own 1;", 1, 9);
        Check.fault("rule own;\tline 1;", 1, 9);
        Check.fault("see 1;", 1, 0);
        Check.fault("red 5;", 1, 0);
        Check.fault("abc 5;", 1, 0);
        Check.fault("7;", 1, 0);
        Check.fault("garden 2;", 1, 8);
        Check.fault("garden 2 -1;", 1, 9);
        Check.fault("garden 2,1;", 1, 8);
        Check.fault("egg 0 0 0 0;", 1, 4);
        Check.fault("egg own 0 0 0;", 1, 4);
        Check.fault("child 1 0 0 1 1 1;", 1, 6);
        Check.fault("child red 0 0 1 1 1;", 1, 6);
        Check.fault("child many 0 0 1 1 1;", 1, 6);
        Check.fault("child or 0 0 1 1 1;", 1, 6);
        Check.fault("child abcdefg 0 0 1 1 1;", 1, 6);
        Check.fault("child gardens 0 0 1 1 1;", 1, 6);
        Check.fault("child abcdef 0 0 1 1;", 1, 20);
        Check.fault("law own 1;", 1, 4);
        Check.fault("law hard 1;", 1, 4);
        Check.fault("law see 1", 1, 9);
        Check.fault("law see", 1, 7);
    }

    private static void faultsOfNumbers() {
        Check.fault("garden 0 1;", 2, 7);
        Check.fault("garden 1 0;", 2, 9);
        Check.fault("garden 9 7;", 2, 7);
        Check.fault("bush 6 0;", 2, 5);
        Check.fault("bush 0 5;", 2, 7);
        Check.fault("garden 3 2;pot 3 0;", 2, 15);
        Check.fault("garden 3 2;tree 2 2;", 2, 18);
        Check.fault("child a 6 0 1 1 1;", 2, 8);
        Check.fault("child a 0 5 1 1 1;", 2, 10);
        Check.fault("child a 0 0 0 1 1;", 2, 12);
        Check.fault("child a 0 0 16 1 1;", 2, 12);
        Check.fault("child a 0 0 1 4 1;", 2, 14);
        Check.fault("child a 0 0 1 1 100;", 2, 16);
        Check.fault("egg red 0 0 10;", 2, 12);
        Check.fault("line 7;", 2, 5);
        Check.fault("dog 0;", 2, 4);
        Check.fault("sun 1000;", 2, 4);
        Check.fault("seed 100000;", 2, 5);
        Check.fault("dog 100;", 2, 4);
        Check.fault("seed 99999999999999999999;", 2, 5);
        Check.fault("seed 4294967296;", 2, 5);
        Check.garden("garden 1 1;egg red 0 0 9;child a 0 0 15 3 99;line 6;dog 99;sun 999;seed 99999;");
        Check.garden("garden 8 1;line 0;dog 1;sun 0;seed 0000000000000099999;child a 7 0 1 0 0;rule free;");
    }

    private static void faultsOfTooMany() {
        StringBuilder eggs = new StringBuilder();
        for (int i = 0; i < 12; i++) {
            eggs.append("egg red 0 0 0;");
        }
        Check.garden(eggs.toString());
        Check.fault(eggs + "egg pink", 2, eggs.length());
        StringBuilder children = new StringBuilder();
        for (int i = 0; i < 4; i++) {
            children.append("child ").append((char) ('a' + i)).append(" 0 0 1 1 1;");
        }
        Check.garden(children.toString());
        Check.fault(children + "child a 0 0 1 1 1;", 2, children.length());
        StringBuilder things = new StringBuilder("garden 8 6;");
        for (int i = 0; i < 16; i++) {
            things.append(i % 3 == 0 ? "bush " : i % 3 == 1 ? "pot " : "tree ").append(i % 8).append(' ');
            things.append(i / 8).append(';');
        }
        EggGarden g = Check.garden(things.toString());
        Check.due("kind of 0", g.cell(0, 0), 1);
        Check.due("kind of 1", g.cell(1, 0), 2);
        Check.due("kind of 14", g.cell(14, 0), 3);
        Check.due("kind of 16", g.cell(16, 0), 0);
        Check.fault(things + "pot 0 0;", 2, things.length());
    }

    private static void faultsOfTwice() {
        Check.fault("garden 2 2;bush 0 0;garden 2 2;", 3, 20);
        Check.fault("egg red 0 0 0;garden 2 2;", 4, 14);
        Check.fault("child a 0 0 1 1 1;garden 2 2;", 4, 18);
        Check.fault("tree 0 0;garden 2 2;", 4, 9);
        Check.garden("rule own;line 1;dog 1;sun 1;seed 1;law see 1;garden 2 2;");
        Check.fault("bush 1 1;bush 1 1;", 3, 16);
        Check.fault("garden 2 2;pot 1 0;tree 1 0;", 3, 26);
        Check.fault("dog 1;dog 1;", 3, 6);
        Check.fault("sun 1;sun 1;", 3, 6);
        Check.fault("seed 1;seed 1;", 3, 7);
        Check.fault("rule free;rule none;", 3, 10);
        Check.fault("law joy 1;law keep 1;law joy (", 3, 25);
        Check.fault("child ab 0 0 1 1 1;child abc 0 0 1 1 1;child ab 0 0 1 1 1;", 3, 45);
    }

    private static void faultsOfLaws() {
        Check.fault("law see ;", 1, 8);
        Check.fault("law see 1 2;", 1, 10);
        Check.fault("law see 1 +;", 1, 11);
        Check.fault("law see +1;", 1, 8);
        Check.fault("law see -1;", 1, 8);
        Check.fault("law see ();", 1, 9);
        Check.fault("law see (1;", 1, 10);
        Check.fault("law see 1);", 1, 9);
        Check.fault("law see 1 < 2 < 3;", 1, 14);
        Check.fault("law see 1 = 2 + 3 <> 4;", 1, 18);
        Check.fault("law see 1 + not 2;", 1, 12);
        Check.fault("law see 1 = not 2;", 1, 12);
        Check.fault("law see 1 not 2;", 1, 10);
        Check.fault("law see not;", 1, 11);
        Check.fault("law see or 1;", 1, 8);
        Check.fault("law see 1 and;", 1, 13);
        Check.fault("law see 1 > = 2;", 1, 12);
        Check.fault("law see 1 < > 2;", 1, 12);
        Check.fault("law see 1 >< 2;", 1, 11);
        Check.fault("law see 1 => 2;", 1, 11);
        Check.fault("law see 1 == 2;", 1, 11);
        Check.fault("law see red;", 1, 8);
        Check.fault("law see foo;", 1, 8);
        Check.fault("law see 1 & 2;", 1, 10);
        Check.fault("law see 10000;", 2, 8);
        Check.fault("law see 9999 + 10000;", 2, 15);
        Check.fault("law see ((((((((1 + (2;", 2, 20);
        Check.garden("law see ((((((((1))))))))+((((((((2))))))));");
        Check.garden("law see 1<2 and 2<3 or 3<4 and(1<2)<3;law hide not not 1 and not 2<3;law keep 1<2 or(1=1)=1;");
        StringBuilder knots = new StringBuilder("law see 1");
        for (int i = 0; i < 15; i++) {
            knots.append("+1");
        }
        knots.append(";law keep not 1");
        for (int i = 0; i < 15; i++) {
            knots.append(" and 1");
        }
        EggGarden g = Check.garden(knots + ";law joy 9;");
        Check.due("knots", g.count(4), 64);
        Check.fault(knots + ";law joy 9 +;", 2, knots.length() + 11);
        Check.fault(knots + " + 7;law hide 1;", 2, knots.length() + 3);
        Check.fault(knots + ";law joy (((not age", 2, knots.length() + 16);
        Check.fault(knots + ";law joy 9 9", 1, knots.length() + 11);
    }

    /** What stands behind the first n bytes does not count. */
    private static void cut(String text, int n, int number, int place) {
        EggGarden g = new EggGarden();
        Check.feed(g, text);
        Check.due("the first " + n + " of " + text, g.text(n), EggGarden.NONE);
        Check.due("fault(0)", g.fault(0), number);
        Check.due("fault(1)", g.fault(1), place);
    }

    private static void cutTexts() {
        cut("sun 77;", 5, 1, 5);
        cut("sun 1000;", 7, 1, 7);
        cut("rule own;", 7, 1, 5);
        cut("rule own;", 8, 1, 8);
        cut("law see 1<=2;", 10, 1, 10);
        cut("law see 1<>2;", 10, 1, 10);
        cut("law see 1>=2;", 10, 1, 10);
        String deep = "((((((((" + "not ".repeat(63) + "1" + "))))))))";
        EggGarden g = Check.garden("law hide " + deep + ";");
        Check.due("knots", g.count(4), 64);
        Check.due("denied 63 times", g.law(2, 0, 0), 0);
    }

    private static void firstFaultCounts() {
        Check.fault("sun 1000;rule none;", 2, 4);
        Check.fault("rule none;sun 1000;", 1, 5);
        Check.fault("rule own;rule own;line 7;", 3, 9);
        Check.fault("egg red 6 9 10;", 2, 8);
        // The 17th and told already, the y beyond and told already: the place or the number that is less.
        Check.fault("bush 0 0;bush 0 9;", 2, 16);
        Check.fault("garden 2 2;garden 0 0;", 3, 11);
    }

    private static void names() {
        EggGarden g = Check.garden("child a 0 0 1 1 1;child zebras 0 0 1 1 1;child b 0 0 1 1 1;child ab 0 0 1 1 1;");
        Check.due("named a", g.named(Check.letters("a")), 0);
        Check.due("named zebras", g.named(Check.letters("zebras")), 1);
        Check.due("named b", g.named(Check.letters("b")), 2);
        Check.due("named ab", g.named(Check.letters("ab")), 3);
        Check.due("named zebra", g.named(Check.letters("zebra")), EggGarden.NONE);
        Check.due("named 0", g.named(0), EggGarden.NONE);
        Check.due("named 1", g.named(1), EggGarden.NONE);
        Check.due("named -1", g.named(-1), EggGarden.NONE);
        Check.due("named with a bit above", g.named(1 << 30 | Check.letters("a")), EggGarden.NONE);
        Check.due("named of an empty one", new EggGarden().named(0), EggGarden.NONE);
    }
}
