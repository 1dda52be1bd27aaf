/** What the tests share: they tell every answer that is not the one that is due, and end with 1 then. */
final class Due {
    private static int wrong;

    private Due() {
    }

    static void is(String call, long got, long want) {
        if (got != want) {
            wrong++;
            System.out.println(call + " answered " + got + ", due is " + want);
        }
    }

    static void is(String call, boolean got, boolean want) {
        is(call, got ? 1 : 0, want ? 1 : 0);
    }

    static void toldRefuses(DiaryHouse house, int line, int what) {
        boolean refused = false;
        try {
            house.told(line, what);
        } catch (java.util.NoSuchElementException e) {
            refused = true;
        }
        is("told(" + line + ", " + what + ") throws NoSuchElementException", refused, true);
    }

    static void told(DiaryHouse house, int line, int... parts) {
        for (int what = 0; what < parts.length; what++) {
            is("told(" + line + ", " + what + ")", house.told(line, what), parts[what]);
        }
    }

    /** Feeds a text without bytes of 0 behind what the TAPE has. */
    static int feed(DiaryHouse house, String text) {
        int size = house.count(9);
        for (int at = 0; at < text.length(); at += 20) {
            int[] words = words(text, at);
            size = house.feed(words[0], words[1], words[2], words[3], words[4]);
        }
        return size;
    }

    static int[] words(String text, int from) {
        int[] words = new int[5];
        for (int i = 0; i < 20 && from + i < text.length(); i++) {
            words[i / 4] |= (text.charAt(from + i) & 255) << 24 - i % 4 * 8;
        }
        return words;
    }

    static int faultOf(String text) {
        DiaryHouse house = new DiaryHouse();
        feed(house, text);
        return house.fault();
    }

    static void fault(String text, int want) {
        is("fault() of \"" + text + "\"", faultOf(text), want);
    }

    /** Takes a text as a RULE. */
    static void rule(DiaryHouse house, String text, int from, int number) {
        house.end(0);
        feed(house, text);
        is("rule(" + from + ") of \"" + text + "\"", house.rule(from), number);
    }

    static void end() {
        System.out.println(wrong == 0 ? "all answers are as due" : wrong + " answers are not as due");
        if (wrong != 0) {
            System.exit(1);
        }
    }
}
