/** The bounds of the TEXT (Terms, part 1) and of promises 1 to 5: the last that is taken, the first that is refused. */
public final class TextBoundsTest {
    private static final String[] WORDS = {"garden", "bush", "pot", "tree", "egg", "child", "rule", "line", "dog", "sun",
        "seed", "law", "red", "blue", "green", "gold", "free", "own", "behind", "see", "hide", "joy", "keep", "or",
        "and", "not", "age", "hard", "kind", "color", "mine", "row", "many"};

    public static void main(String[] args) {
        numbers();
        cellsOfAGarden();
        longNumbers();
        largestGarden();
        withoutLines();
        mostEggs();
        mostChildren();
        mostThings();
        mostBrackets();
        mostKnots();
        toldTwice();
        gardenTooLate();
        ofOnePlaceTheLeast();
        wordsOfTheLanguage();
        namesOfChildren();
        bytesThatAreNone();
        more();
        signsTogether();
        placesOfFaults();
        aFaultLeavesAll();
        feeding();
        textsOfTheTape();
        aTextMakesAllNew();
        textsOneBehindAnother();
        textsBehindFaults();
        faultsAsked();
        namesAsked();
        Check.end();
    }

    /** A TEXT with a number at '#': within it is taken, beyond it is FAULT 2 at its place. */
    private static void bounds(String text, int least, int most) {
        int place = text.indexOf('#');
        Check.garden(text.replace("#", "" + least));
        Check.garden(text.replace("#", "" + most));
        Check.garden(text.replace("#", "000" + most));
        if (least > 0) {
            Check.fault(text.replace("#", "" + (least - 1)), 2, place);
        }
        Check.fault(text.replace("#", "" + (most + 1)), 2, place);
        Check.fault(text.replace("#", "2147483648"), 2, place);
        Check.fault(text.replace("#", "-1"), 1, place);
    }

    private static void numbers() {
        bounds("garden # 1;", 1, 8);
        bounds("garden 1 #;", 1, 6);
        bounds("egg red 0 0 #;", 0, 9);
        bounds("child a 0 0 # 1 1;", 1, 15);
        bounds("child a 0 0 1 # 1;", 0, 3);
        bounds("child a 0 0 1 1 #;", 0, 99);
        bounds("line #;", 0, 6);
        bounds("dog #;", 1, 99);
        bounds("sun #;", 0, 999);
        bounds("seed #;", 0, 99999);
        for (String law : new String[] {"see", "hide", "joy", "keep"}) {
            bounds("law " + law + " #;", 0, 9999);
            bounds("law " + law + " 1+#*2;", 0, 9999);
        }
    }

    /** x and y are below WIDE and HIGH: of 6 and 5 without a garden told, of what it tells with one. */
    private static void cellsOfAGarden() {
        int[][] gardens = {{6, 5}, {1, 1}, {8, 6}, {3, 2}, {8, 1}, {1, 6}};
        String[] lines = {"bush X Y;", "pot X Y;", "tree X Y;", "egg gold X Y 1;", "child a X Y 1 1 1;"};
        for (int[] size : gardens) {
            String told = size[0] == 6 ? "" : "garden " + size[0] + " " + size[1] + ";";
            for (String line : lines) {
                bounds(told + line.replace("X", "#").replace("Y", "0"), 0, size[0] - 1);
                bounds(told + line.replace("X", "0").replace("Y", "#"), 0, size[1] - 1);
                bounds(told + line.replace("X", "" + (size[0] - 1)).replace("Y", "#"), 0, size[1] - 1);
            }
        }
    }

    /** Digits of any length are one number: none wraps around to one that is taken. */
    private static void longNumbers() {
        String[] wrapping = {"4294967296", "4294967297", "18446744073709551616", "18446744073709551617",
            "340282366920938463463374607431768211457", "10000000000000000000000000000000000000000000000001"};
        for (String number : wrapping) {
            Check.fault("sun " + number + ";", 2, 4);
            Check.fault("garden " + number + " 1;", 2, 7);
            Check.fault("law see " + number + ";", 2, 8);
        }
        EggGarden g = Check.garden("garden 0000000000000000000000000000000000000000000007 0002;");
        Check.due("zeros ahead", g.count(0), 7);
        Check.due("zeros ahead", g.count(1), 2);
    }

    private static void largestGarden() {
        EggGarden g = Check.garden("garden 8 6;tree 7 5;egg gold 7 5 9;child abcdef 7 5 15 3 99;");
        Check.due("wide", g.count(0), 8);
        Check.due("high", g.count(1), 6);
        Check.due("the last cell", g.cell(47, 0), 3);
        Check.due("numbered y times WIDE and x", g.egg(0, 0), 47);
        Check.due("hard", g.egg(0, 2), 9);
        Check.due("where the child is", g.child(0, 0), 47);
        EggGarden least = Check.garden("garden 1 1;pot 0 0;egg red 0 0 0;child a 0 0 1 0 0;");
        Check.due("the only cell", least.cell(0, 0), 2);
        Check.due("wide times high", least.count(0) * least.count(1), 1);
        EggGarden row = Check.garden("garden 5 3;bush 4 1;");
        Check.due("1 times 5 and 4", row.cell(9, 0), 1);
    }

    /** What holds without a LINE: 6 and 5, rule 0, line 0, no dog, no sun, seed 0. */
    private static void withoutLines() {
        String eggs = "egg red 0 0 5;".repeat(6);
        EggGarden g = Check.garden(eggs + "child a 0 0 9 0 0;");
        Check.due("wide", g.count(0), 6);
        Check.due("high", g.count(1), 5);
        Check.due("rule", g.count(11), 0);
        EggGarden told = Check.garden("garden 6 5;" + eggs + "child a 0 0 9 0 0;rule free;line 0;seed 0;");
        EggGarden other = Check.garden(eggs + "child a 0 0 9 0 0;seed 1;");
        boolean same = true;
        for (int t = 0; t < 6; t++) {
            g.go(1);
            told.go(1);
            other.go(1);
            Check.due("seed 0 without", g.child(0, 2), told.child(0, 2));
            same &= g.child(0, 2) == other.child(0, 2);
        }
        Check.due("seed 1 is another", same, false);
        EggGarden line = Check.garden("rule behind;child a 0 0 15 0 0;");
        Check.due("line 0 without", line.next(0), 0);
        EggGarden quiet = Check.garden("garden 1 1;egg red 0 0 0;");
        for (int i = 0; i < 6; i++) {
            quiet.go(200);
        }
        Check.due("no dog, no sun", quiet.egg(0, 3), -1);
    }

    private static void mostEggs() {
        String twelve = "egg red 0 0 1;".repeat(11) + "egg gold 5 4 9;";
        EggGarden g = Check.garden(twelve);
        Check.due("eggs", g.count(2), 12);
        Check.due("the twelfth", g.egg(11, 1), 3);
        Check.fault(twelve + "egg red 0 0 1;", 2, twelve.length());
        Check.fault(twelve + "egg;", 2, twelve.length());
        Check.fault(twelve + "egg", 2, twelve.length());
        Check.fault(twelve + "eggs", 1, twelve.length());
        Check.garden(twelve + "child a 0 0 1 1 1;bush 0 0;");
    }

    private static void mostChildren() {
        String four = "child a 0 0 1 1 1;child b 0 0 1 1 1;child c 0 0 1 1 1;child d 5 4 1 1 1;";
        EggGarden g = Check.garden(four);
        Check.due("children", g.count(3), 4);
        Check.due("the fourth", g.child(3, 0), 29);
        Check.fault(four + "child e 0 0 1 1 1;", 2, four.length());
        Check.fault(four + "child a 0 0 1 1 1;", 2, four.length());
        Check.fault(four + "child", 2, four.length());
        Check.garden(four + "egg red 0 0 1;tree 5 4;");
    }

    private static String things(int many, String... kinds) {
        StringBuilder text = new StringBuilder();
        for (int i = 0; i < many; i++) {
            text.append(kinds[i % kinds.length]).append(' ').append(i % 6).append(' ').append(i / 6).append(';');
        }
        return text.toString();
    }

    private static void mostThings() {
        String[][] ways = {{"bush"}, {"pot"}, {"tree"}, {"tree", "bush", "pot"}};
        for (String[] kinds : ways) {
            String sixteen = things(16, kinds);
            EggGarden g = Check.garden(sixteen);
            Check.due("the last isn't grass", g.cell(15, 0) > 0, true);
            Check.due("the next is grass", g.cell(16, 0), 0);
            for (String word : new String[] {"bush", "pot", "tree"}) {
                Check.fault(sixteen + word + " 5 4;", 2, sixteen.length());
                Check.fault(sixteen + word + " 0 0;", 2, sixteen.length());
                Check.fault(sixteen + word + " 9 9;", 2, sixteen.length());
                Check.fault(sixteen + word, 2, sixteen.length());
            }
            Check.garden(sixteen + "egg red 5 4 1;child a 5 4 1 1 1;");
        }
    }

    private static void mostBrackets() {
        Check.garden("law see ((((((((1))))))));");
        Check.fault("law see (((((((((1)))))))));", 2, 16);
        Check.fault("law see ((((((((1+2)*(3-(4))))))));", 2, 24);
        Check.garden("law see ((((((((1)+(2))))))))+((((((((3))))))));");
        Check.fault("law see ((((((((1)+((2)))))))));", 2, 20);
        // Those of another law are not open any more.
        Check.garden("law see ((((((((1))))))));law joy ((((((((1))))))));");
        // What can't stand there comes ahead of what is too much.
        Check.fault("law see ((((((((1(", 1, 17);
        Check.fault("law see ((((((((1)(", 1, 18);
    }

    /** So many KNOTS, an odd number of them, ending with a part. */
    private static String sum(int knots) {
        return "1" + "+1".repeat((knots - 1) / 2);
    }

    private static void mostKnots() {
        String[] operators = {"+", "-", "*", "/", "<", "<=", "=", "<>", ">=", ">", " and ", " or "};
        for (String operator : operators) {
            // Brackets are no KNOTS.
            String most = "law hide (" + sum(61) + ")" + operator + "1;";
            EggGarden g = Check.garden(most);
            Check.due("knots of " + most, g.count(4), 63);
            String behind = "law hide (not(" + sum(61) + "))";
            int place = (behind + operator).indexOf(operator.trim(), behind.length());
            Check.due("knots", Check.garden(behind + operator + "1;").count(4), 64);
            String full = "law hide (not not(" + sum(61) + "))" + operator + "(";
            Check.fault(full + "1);", 2, full.length());
            Check.fault(full + "age);", 2, full.length());
            String first = "law hide (not(" + sum(63) + "))";
            place += first.length() - behind.length();
            Check.fault(first + operator + "1;", 2, place);
        }
        EggGarden g = Check.garden("law see " + "not ".repeat(63) + "age;");
        Check.due("knots", g.count(4), 64);
        Check.fault("law see " + "not ".repeat(64) + "age;", 2, 8 + 64 * 4);
        Check.fault("law see " + "not ".repeat(65) + "age;", 2, 8 + 64 * 4);
        for (String name : new String[] {"age", "hard", "kind", "color", "mine", "row", "many", "9999", "10000"}) {
            Check.fault("law see " + "not ".repeat(64) + name + ";", 2, 8 + 64 * 4);
        }
        // What can't stand there comes ahead of what is too much.
        Check.fault("law see " + "not ".repeat(64) + "red;", 1, 8 + 64 * 4);
        Check.fault("law see " + "not ".repeat(63) + "1 not", 1, 8 + 63 * 4 + 2);
        Check.fault("law see " + "not ".repeat(61) + "1<2<", 1, 8 + 61 * 4 + 3);
        Check.fault("law see " + "not ".repeat(61) + "1<2+", 2, 8 + 61 * 4 + 3);
        knotsOfAllLaws();
    }

    /** The KNOTS of all E are counted together. */
    private static void knotsOfAllLaws() {
        String three = "law see " + sum(21) + ";law hide " + sum(21) + ";law joy " + sum(21) + ";";
        Check.due("63 of three", Check.garden(three).count(4), 63);
        Check.due("64 of four", Check.garden(three + "law keep many;").count(4), 64);
        Check.fault(three + "law keep not many;", 2, three.length() + 13);
        Check.fault(three + "law keep many+1;", 2, three.length() + 13);
        Check.fault(three + "law keep 9999+1;", 2, three.length() + 13);
    }

    private static void toldTwice() {
        Check.fault("rule own;line 1;rule free;", 3, 16);
        Check.fault("line 1;rule own;line 1;", 3, 16);
        Check.fault("dog 1;line 1;dog 1;", 3, 13);
        Check.fault("sun 1;line 1;sun 1;", 3, 13);
        Check.fault("seed 1;line 1;seed 2;", 3, 14);
        Check.fault("garden 6 5;line 1;garden 6 5;", 3, 18);
        for (String law : new String[] {"see", "hide", "joy", "keep"}) {
            String once = "law " + law + " 1;";
            Check.fault(once + once, 3, once.length() + 4);
            Check.fault(once + "line 1;law " + law + " 10000", 3, once.length() + 11);
        }
        Check.garden("law see 1;law hide 1;law joy 1;law keep 1;");
        String[] kinds = {"bush", "pot", "tree"};
        for (String one : kinds) {
            for (String other : kinds) {
                String text = one + " 3 2;bush 2 3;" + other + " 3 2;";
                Check.fault(text, 3, text.length() - 2);
            }
        }
        Check.fault("child a 0 0 1 1 1;child ab 0 0 1 1 1;child ab 0 0 1 1 1;", 3, 43);
        Check.fault("child abcdef 0 0 1 1 1;child abcdeg 0 0 1 1 1;child abcdef;", 3, 52);
        Check.garden("child a 0 0 1 1 1;child aa 0 0 1 1 1;child aaa 0 0 1 1 1;child b 0 0 1 1 1;");
        // EGGS and CHILDREN may share a CELL, whatever its KIND.
        Check.garden("bush 1 1;egg red 1 1 1;egg red 1 1 1;child a 1 1 1 1 1;child b 1 1 1 1 1;");
        Check.garden("egg red 1 1 1;child a 1 1 1 1 1;bush 1 1;");
    }

    private static void gardenTooLate() {
        String[] lines = {"bush 0 0;", "pot 0 0;", "tree 0 0;", "egg red 0 0 0;", "child a 0 0 1 1 1;"};
        for (String line : lines) {
            Check.fault(line + "garden 6 5;", 4, line.length());
            Check.fault(line + "garden 9 9;", 4, line.length());
            Check.fault(line + "garden", 4, line.length());
            Check.garden("garden 6 5;" + line);
        }
        Check.garden("rule own;line 1;dog 1;sun 1;seed 1;law hide 1;law see 1;law joy 1;law keep 1;garden 1 1;");
    }

    private static void ofOnePlaceTheLeast() {
        Check.fault("garden 2 2;bush 0 0;garden 2 2;", 3, 20);
        Check.fault("garden 2 2;egg red 0 0 0;garden 0 9;", 3, 25);
        Check.fault("bush 0 0;bush 0 5;", 2, 16);
        // The first along the text, whatever its number.
        Check.fault("bush 0 0;garden 2 2;rule none;", 4, 9);
        Check.fault("sun 1;sun 1000;#", 3, 6);
        Check.fault("sun 1000;sun 1;#", 2, 4);
        Check.fault("#;sun 1;sun 1000;", 1, 0);
        Check.fault("egg red 6 5 10;", 2, 8);
        Check.fault("egg red 5 5 10;", 2, 10);
        Check.fault("egg red 5 4 10", 2, 12);
        Check.fault("egg red 5 4 9", 1, 13);
    }

    private static void wordsOfTheLanguage() {
        for (String word : WORDS) {
            Check.fault("child " + word + " 0 0 1 1 1;", 1, 6);
            String longer = word + "x";
            EggGarden g = new EggGarden();
            int want = longer.length() > 6 ? EggGarden.NONE : 1;
            Check.due("child " + longer, Check.tell(g, "child " + longer + " 0 0 1 1 1;"), want);
            String shorter = word.substring(0, word.length() - 1);
            want = shorter.equals("see") ? EggGarden.NONE : 1;
            Check.due("child " + shorter, Check.tell(g, "child " + shorter + " 0 0 1 1 1;"), want);
        }
        String[] lines = {"garden", "bush", "pot", "tree", "egg", "child", "rule", "line", "dog", "sun", "seed", "law"};
        for (String word : WORDS) {
            boolean begins = java.util.List.of(lines).contains(word);
            Check.fault(word, 1, begins ? word.length() : 0);
            boolean names = java.util.List.of("age", "hard", "kind", "color", "mine", "row", "many").contains(word);
            if (names) {
                Check.garden("law see " + word + ";");
            } else {
                Check.fault("law see " + word + ";", 1, word.equals("not") ? 11 : 8);
            }
        }
        for (String word : WORDS) {
            EggGarden g = new EggGarden();
            boolean law = java.util.List.of("see", "hide", "joy", "keep").contains(word);
            Check.due("law " + word, Check.tell(g, "law " + word + " 1;"), law ? 1 : EggGarden.NONE);
            Check.due("law " + word, g.fault(1), law ? EggGarden.NONE : 4);
            boolean color = java.util.List.of("red", "blue", "green", "gold").contains(word);
            Check.due("egg " + word, Check.tell(g, "egg " + word + " 0 0 1;"), color ? 1 : EggGarden.NONE);
            boolean rule = java.util.List.of("free", "own", "behind").contains(word);
            Check.due("rule " + word, Check.tell(g, "rule " + word + ";"), rule ? 1 : EggGarden.NONE);
        }
        for (String color : new String[] {"red", "blue", "green", "gold"}) {
            Check.garden("egg " + color + " 0 0 0;");
            Check.fault("egg " + color + "s 0 0 0;", 1, 4);
        }
        for (String rule : new String[] {"free", "own", "behind"}) {
            Check.garden("rule " + rule + ";");
            Check.fault("rule " + rule + "s;", 1, 5);
        }
    }

    private static void namesOfChildren() {
        EggGarden g = Check.garden("child z 0 0 1 1 1;child zzzzzz 0 0 1 1 1;child aaaaaa 0 0 1 1 1;child a 0 0 1 1 1;");
        Check.due("z", g.named(Check.letters("z")), 0);
        Check.due("zzzzzz", g.named(Check.letters("zzzzzz")), 1);
        Check.due("aaaaaa", g.named(Check.letters("aaaaaa")), 2);
        Check.due("a", g.named(Check.letters("a")), 3);
        Check.fault("child aaaaaaa 0 0 1 1 1;", 1, 6);
        Check.fault("child zzzzzzz 0 0 1 1 1;", 1, 6);
        Check.fault("child abcdefabcdef 0 0 1 1 1;", 1, 6);
        Check.fault("child Ann 0 0 1 1 1;", 1, 6);
        Check.fault("child aNn 0 0 1 1 1;", 1, 7);
        Check.fault("child 5 0 0 1 1 1;", 1, 6);
        Check.fault("child ; 0 0 1 1 1;", 1, 6);
    }

    /** Every byte where a LINE may come: only blanks 10 and 32 are none's. */
    private static void bytesThatAreNone() {
        for (int b = 0; b < 256; b++) {
            boolean blank = b == 10 || b == 32;
            EggGarden g = new EggGarden();
            g.feed(b << 24 | 0x202020, 0x20202020, 0x20202020, 0x20202020, 0x20202020);
            Check.due("text of byte " + b, g.text(20), blank ? 0 : EggGarden.NONE);
            Check.due("fault of byte " + b, g.fault(0), blank ? 0 : 1);
            Check.due("place of byte " + b, g.fault(1), blank ? EggGarden.NONE : 0);
            // "sun 7" and the byte: a digit or a blank belongs there, a ';' ends it.
            boolean digit = b >= '0' && b <= '9';
            g.feed(0x73756e20, 0x37 << 24 | b << 16 | 0x3b20, 0x20202020, 0x20202020, 0x20202020);
            boolean taken = blank || digit;
            Check.due("sun 7 and byte " + b, g.text(7), taken ? 1 : EggGarden.NONE);
            Check.due("place of byte " + b, g.fault(1), taken ? EggGarden.NONE : b == ';' ? 6 : 5);
            Check.due("fault of byte " + b, g.fault(0), taken ? 0 : 1);
        }
    }

    /** Where more must come, the place is the length. */
    private static void more() {
        String[] texts = {"garden 3 2;", "bush 1 1;", "egg gold 1 1 1;", "child a 1 1 1 1 1;", "rule own;", "line 1;",
            "dog 1;", "sun 1;", "seed 1;", "law see not ( age + 1 <= 2 ) and 3 or 4;"};
        for (String text : texts) {
            for (int n = 1; n <= text.length(); n++) {
                EggGarden g = new EggGarden();
                Check.feed(g, text);
                boolean whole = n == text.length();
                // A word or a sign cut in two is another one; at a blank or behind a digit nothing is cut.
                char last = text.charAt(n - 1);
                boolean cut = !whole && (Character.isLetter(last) && Character.isLetter(text.charAt(n))
                        || last == '<');
                if (!cut) {
                    Check.due(n + " of " + text, g.text(n), whole ? 1 : EggGarden.NONE);
                    Check.due("fault", g.fault(0), whole ? 0 : 1);
                    Check.due("place", g.fault(1), whole ? EggGarden.NONE : n);
                }
            }
        }
        Check.fault("sun 1;sun", 3, 6);
        Check.fault("sun 1;dog \n  ", 1, 13);
    }

    private static void signsTogether() {
        String[] taken = {"<", "<=", "=", "<>", ">=", ">"};
        for (String sign : taken) {
            Check.garden("law see 1" + sign + "2;");
            Check.garden("law see 1 " + sign + "\n2;");
        }
        Check.fault("law see 1< =2;", 1, 11);
        Check.fault("law see 1<\n>2;", 1, 11);
        Check.fault("law see 1> =2;", 1, 11);
        Check.fault("law see 1=<2;", 1, 10);
        Check.fault("law see 1=>2;", 1, 10);
        Check.fault("law see 1><2;", 1, 10);
        Check.fault("law see 1>>2;", 1, 10);
        Check.fault("law see 1<<2;", 1, 10);
        Check.fault("law see 1<==2;", 1, 11);
        Check.fault("law see 1<>=2;", 1, 11);
        Check.fault("law see 1<=>2;", 1, 11);
        Check.fault("law see 1!=2;", 1, 9);
        // At most one comparison in a C; and, or, brackets begin another.
        Check.fault("law see 1<2=3;", 1, 11);
        Check.fault("law see not 1<2<3;", 1, 15);
        Check.fault("law see (1<2<3);", 1, 12);
        Check.fault("law see 1<(2)<3;", 1, 13);
        Check.fault("law see 1<2+3*4<5;", 1, 15);
        Check.fault("law see 1<2 and 3<4<5;", 1, 19);
        for (String first : taken) {
            for (String second : taken) {
                Check.fault("law see 1" + first + "2" + second + "3;", 1, 10 + first.length());
            }
        }
        // A bracket begins an E of its own, wherever it stands.
        Check.garden("law see 1+(not 2);law hide 1<(not 2<3);law joy not(not(3));");
        Check.garden("law see (1<2)<(3<4);law hide 1<2 and 3<4 or 5<6;");
    }

    private static void placesOfFaults() {
        Check.fault("  \n sun 1000;", 2, 8);
        Check.fault("\n\nrule\nnone;", 1, 7);
        Check.fault("garden 2 2 2;", 1, 11);
        Check.fault("law see 1 2;", 1, 10);
        Check.fault("law see 1 age;", 1, 10);
        Check.fault("law see 1)", 1, 9);
        Check.fault("law see (1))", 1, 11);
        Check.fault("law see ()", 1, 9);
        Check.fault("law see not", 1, 11);
        Check.fault("law see (not)", 1, 12);
        String long700 = "rule own;" + " ".repeat(690) + "#";
        Check.fault(long700, 1, 699);
        String lines = "sun 1;" + " ".repeat(693);
        Check.fault(lines + "s", 1, 699);
        Check.fault("rule" + " ".repeat(696), 1, 700);
        Check.fault("rule " + "x".repeat(695), 1, 5);
        Check.fault("law see " + "9".repeat(692), 2, 8);
    }

    private static void aFaultLeavesAll() {
        String[] wrong = {"#", "rule own", "garden 9 1;", "garden 1 1;garden 1 1;", "bush 0 0;garden 1 1;",
            "garden 8 6;tree 7 5;egg red 7 5 9;child z 7 5 15 3 99;rule behind;line 6;dog 1;sun 0;seed 9;law see 1;"
                + "law hide 1;law joy 1;law keep 1;;"};
        for (String text : wrong) {
            // Its own FAULT and the empty TAPE are all that is left of it.
            boolean same = Trace.state(afterFault(text)).equals(Trace.state(Trace.busy()));
            Check.due("all stays with " + text, same, true);
        }
        EggGarden g = afterFault("garden 1 1;#");
        Check.due("wide", g.count(0), 3);
        Check.due("the laws", g.law(2, 1, 0), 3);
        Check.due("named", g.named(Check.letters("bo")), 1);
        Check.due("what can be undone", g.count(14), 5);
        Check.due("the image", g.back(), 1);
        Check.due("seen", g.count(12), 3);
        Check.due("known", g.count(13), 2);
    }

    private static EggGarden afterFault(String text) {
        EggGarden g = Trace.busy();
        Check.due("what is on the TAPE with a sign more", g.feed('#' << 24, 0, 0, 0, 0), 40);
        Check.due("has a fault", g.text(21), EggGarden.NONE);
        Check.due("text: " + text, Check.tell(g, text), EggGarden.NONE);
        return g;
    }

    private static void feeding() {
        EggGarden g = new EggGarden();
        for (int i = 1; i <= 34; i++) {
            Check.due("feed", g.feed(0x20202020, 0x20202020, 0x20202020, 0x20202020, 0x20202020), 20 * i);
        }
        Check.due("up to 700", g.feed(0x20202020, 0x20202020, 0x20202020, 0x2073756e, 0x20373b20), 700);
        for (int i = 0; i < 3; i++) {
            Check.due("beyond 700", g.feed(0x23232323, 0x23232323, 0x23232323, 0x23232323, 0x23232323), EggGarden.NONE);
        }
        Check.due("none came", g.text(701), -2);
        Check.due("the whole tape, with its last bytes", g.text(700), 1);
        Check.due("it is empty then", g.text(1), -2);
        Check.due("and takes again", g.feed(-1, -1, -1, -1, -1), 20);
        // Bytes of all signs: 255 is one, not -1.
        Check.due("byte 255", g.text(1), EggGarden.NONE);
        Check.due("its fault", g.fault(0), 1);
        // Four of each number, the highest first.
        Check.due("in order", g.feed(0x72756c65, 0x206f776e, 0x3b6c696e, 0x6520363b, 0x73756e20), 20);
        Check.due("in order", g.feed(0x39393920, 0x3b202020, 0x20202020, 0x20202020, 0x20202020), 40);
        Check.due("in order", g.text(40), 3);
        Check.due("rule", g.count(11), 1);
    }

    private static void textsOfTheTape() {
        int[] refused = {21, 22, 700, 701, Integer.MAX_VALUE, -1, -2, -700, Integer.MIN_VALUE};
        for (int n : refused) {
            Trace.none("text(" + n + ") of 20", g -> g.text(n), -2);
        }
        EggGarden empty = new EggGarden();
        for (int n : new int[] {1, 20, -1}) {
            Check.due("text(" + n + ") of none", empty.text(n), -2);
        }
        Check.due("text(0) of none", empty.text(0), 0);
        // All of the TAPE goes, whatever n.
        for (int n : new int[] {0, 6, 7, 20}) {
            EggGarden g = new EggGarden();
            Check.feed(g, "sun 5;");
            Check.due("text(" + n + ")", g.text(n), n == 0 ? 0 : 1);
            Check.due("the tape is empty", g.text(1), -2);
            Check.due("the tape is empty", g.feed(0, 0, 0, 0, 0), 20);
        }
        EggGarden g = new EggGarden();
        Check.feed(g, "sun 5;");
        Check.due("cut", g.text(5), EggGarden.NONE);
        Check.due("at the length", g.fault(1), 5);
        Check.due("the tape is empty with a fault, too", g.text(1), -2);
        StringBuilder lines = new StringBuilder("line 1;");
        for (int i = 0; i < 12; i++) {
            lines.append("egg red 0 0 1;");
        }
        Check.due("lines", Check.tell(g, lines.toString()), 13);
    }

    private static void aTextMakesAllNew() {
        EggGarden g = Trace.busy();
        Check.due("what is on the tape", g.text(0), 0);
        EggGarden fresh = new EggGarden();
        Check.due("a text of none is as a new object", Trace.all(g).equals(Trace.all(fresh)), true);
        EggGarden again = Trace.busy();
        again.text(20);
        Check.due("a text", Check.tell(again, Trace.TEXT) > 0, true);
        EggGarden first = new EggGarden();
        Check.due("a text", Check.tell(first, Trace.TEXT) > 0, true);
        Check.due("the same text is the same garden", Trace.all(again).equals(Trace.all(first)), true);
    }

    /** Nothing of a TEXT ahead goes on: KINDS, CELLS, rule, line, dog, sun, seed, laws, and what is counted. */
    private static void textsOneBehindAnother() {
        String full = "garden 8 6;" + things(16, "tree", "pot", "bush")
                + "egg gold 0 0 1;".repeat(4) + "child x 7 5 15 0 99;child y 7 5 15 0 99;child z 7 5 15 0 99;"
                + "rule behind;line 6;dog 1;sun 1;seed 77;law see " + sum(15) + ";law hide " + sum(15) + ";law joy "
                + sum(15) + ";law keep " + sum(15) + ";";
        String plain = "egg red 0 0 5;egg blue 1 0 4;egg red 0 1 6;child a 0 0 9 1 0;child b 1 1 9 1 0;";
        EggGarden g = new EggGarden();
        for (int i = 0; i < 4; i++) {
            Check.due("the same text again", Check.tell(g, full) > 0, true);
        }
        Check.due("the knots of one text", g.count(4), 60);
        Check.due("a law's value", g.law(2, 0, 0), 8);
        Check.due("a plain text", Check.tell(g, plain), 5);
        Check.due("no law", g.law(2, 0, 0), Long.MIN_VALUE);
        EggGarden fresh = Check.garden(plain);
        Check.due("as of a new object", Trace.all(g).equals(Trace.all(fresh)), true);
        EggGarden line = Check.garden(full);
        Check.tell(line, "rule behind;child a 0 0 15 0 0;");
        Check.due("line 0 without", line.next(0), 0);
        EggGarden dog = Check.garden(full);
        Check.tell(dog, "garden 1 1;egg red 0 0 9;");
        dog.go(9);
        Check.due("no dog, no sun without", dog.egg(0, 3), -1);
        EggGarden mixed = Check.garden(plain);
        Check.due("a text of none", mixed.text(0), 0);
        Check.due("no eggs", mixed.count(2), 0);
        Check.due("no children", mixed.count(3), 0);
    }

    /** Nothing of a TEXT with a FAULT goes on, either. */
    private static void textsBehindFaults() {
        String[] wrong = {"law see 1+((((((((", "law see 1+2*3<4 and not", "law see (1+(2*(3-#", "law see 1<2<3",
            "garden 1 1;garden", "bush 0 0;egg red 0 0 0;child a 0 0 1 1 1;rule own;line 1;dog 1;sun 0;seed 5;#"};
        String plain = "law hide 1+kind*2;egg red 0 0 5;egg blue 1 0 4;child a 0 0 9 1 0;law see not(1<2)or(3)*44;";
        for (String text : wrong) {
            EggGarden g = new EggGarden();
            Check.due("text: " + text, Check.tell(g, text), EggGarden.NONE);
            Check.due("a plain text", Check.tell(g, plain), 5);
            Check.due("its hide", g.law(2, 0, 0), 1);
            Check.due("its see", g.law(0, 0, 0), 1);
            Check.due("its knots", g.count(4), 13);
            EggGarden fresh = Check.garden(plain);
            Check.due("as of a new object", Trace.all(g).equals(Trace.all(fresh)), true);
        }
    }

    private static void faultsAsked() {
        for (int what : new int[] {-1, 2, 3, Integer.MAX_VALUE, Integer.MIN_VALUE}) {
            Trace.none("fault(" + what + ")", g -> g.fault(what), EggGarden.NONE);
        }
        Trace.none("fault(0)", g -> g.fault(0), 3);
        Trace.none("fault(1)", g -> g.fault(1), 9);
        EggGarden g = new EggGarden();
        Check.due("no text yet", g.fault(0), 0);
        Check.due("no text yet", g.fault(1), EggGarden.NONE);
        Check.tell(g, "dog 0;");
        Check.due("text(1)", g.text(1), -2);
        Check.due("text(-1)", g.text(-1), -2);
        Check.due("of the latest that was not -2", g.fault(0), 2);
        Check.due("of the latest that was not -2", g.fault(1), 4);
        Check.tell(g, "dog 1;");
        Check.due("without", g.fault(0), 0);
        Check.due("without", g.fault(1), EggGarden.NONE);
        Check.tell(g, ";");
        Check.due("place 0 is one", g.fault(1), 0);
    }

    private static void namesAsked() {
        EggGarden g = Check.garden("child ab 0 0 1 1 1;child b 0 0 1 1 1;");
        int ab = Check.letters("ab");
        Check.due("ab", g.named(ab), 0);
        int[] none = {0, -1, 1, 2, ab >> 5, ab << 5, ab + 1, ab - 1, ab | 1 << 30, ab | 1 << 31, ab ^ -1,
            Check.letters("a"), Check.letters("abb"), Check.letters("ba"), Integer.MAX_VALUE, Integer.MIN_VALUE};
        for (int letters : none) {
            Check.due("named(" + letters + ")", g.named(letters), EggGarden.NONE);
        }
        Check.due("no children", new EggGarden().named(ab), EggGarden.NONE);
        Check.tell(g, "child c 0 0 1 1 1;");
        Check.due("those of a text ahead are gone", g.named(ab), EggGarden.NONE);
        Check.due("b is gone, too", g.named(Check.letters("b")), EggGarden.NONE);
    }
}
