/** Counts answers that are not as due, and ends a test. */
final class Check {
    private static int asked = 0;
    private static int wrong = 0;

    private Check() {
    }

    static void due(String call, long got, long want) {
        asked++;
        if (got != want) {
            wrong++;
            System.out.println(call + " answered " + got + ", due is " + want);
        }
    }

    static void due(String call, boolean got, boolean want) {
        due(call, got ? 1 : 0, want ? 1 : 0);
    }

    /** Feeds a text of any length, filled up with blanks, and answers what text() does. */
    static int tell(EggGarden garden, String text) {
        feed(garden, text);
        return garden.text(text.length());
    }

    static int feed(EggGarden garden, String text) {
        int answer = 0;
        for (int at = 0; at < text.length(); at += 20) {
            int[] four = new int[5];
            for (int i = 0; i < 20; i++) {
                int sign = at + i < text.length() ? text.charAt(at + i) : ' ';
                four[i / 4] = four[i / 4] << 8 | sign & 255;
            }
            answer = garden.feed(four[0], four[1], four[2], four[3], four[4]);
        }
        return answer;
    }

    static EggGarden garden(String text) {
        EggGarden garden = new EggGarden();
        int lines = 0;
        for (int i = 0; i < text.length(); i++) {
            lines += text.charAt(i) == ';' ? 1 : 0;
        }
        due("text: " + text, tell(garden, text), lines);
        return garden;
    }

    /** A text that has a FAULT at a place: text() is NONE, and fault() tells it. */
    static void fault(String text, int number, int place) {
        EggGarden garden = new EggGarden();
        due("text: " + text, tell(garden, text), EggGarden.NONE);
        due("fault(0) of " + text, garden.fault(0), number);
        due("fault(1) of " + text, garden.fault(1), place);
    }

    static int letters(String name) {
        int letters = 0;
        for (int i = 0; i < 6; i++) {
            letters = letters << 5 | (i < name.length() ? name.charAt(i) - 'a' + 1 : 0);
        }
        return letters;
    }

    static void end() {
        System.out.println(asked + " answers asked, " + wrong + " not as due");
        if (wrong > 0) {
            System.exit(1);
        }
    }
}
