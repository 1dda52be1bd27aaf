/** Promises 12 to 16, and what a RULE is worth. */
public final class RulesTest {
    public static void main(String[] args) {
        force();
        asked();
        askedLetters();
        sums();
        conditions();
        clauses();
        shown();
        shownLetters();
        digest();
        digestSizes();
        digestOfOtherDays();
        Due.end();
    }

    private static void force() {
        DiaryHouse x = new DiaryHouse();
        Due.rule(x, "q:1", 5, 0);
        Due.rule(x, "q:2", 9, 1);
        x.days(2);
        Due.rule(x, "q:3", 5, 2);
        Due.rule(x, "q:4", 7, 3);
        x.days(1);
        Due.is("force(4, 3)", x.force(4, 3), -1);
        Due.is("force(5, 0)", x.force(5, 0), 0);
        Due.is("force(8, 1)", x.force(8, 1), 0);
        Due.is("force(9, 0)", x.force(9, 0), 1);
        Due.is("force(5, 2)", x.force(5, 2), 2);
        Due.is("force(6, 3)", x.force(6, 3), 2);
        Due.is("force(7, 2)", x.force(7, 2), 3);
        Due.is("force(1000, 2)", x.force(1000, 2), 1);
        Due.is("force(1001, 2)", x.force(1001, 2), -1);
        Due.is("force(-1, 2)", x.force(-1, 2), -1);
        Due.is("force(9, 4)", x.force(9, 4), -1);
        Due.is("force(9, -1)", x.force(9, -1), -1);
    }

    private static void asked() {
        DiaryHouse x = new DiaryHouse();
        x.person(3, 20, 1);
        Due.is("asked without a RULE", x.asked(0, 0, 0, 0), 0);
        Due.rule(x, "s:1;d:1", 0, 0);
        Due.is("asked without a CLAUSE", x.asked(0, 0, 0, 0), 0);
        x.days(1);
        Due.rule(x, "q:k=3?0-1", 2, 1);
        x.person(3, 20, 1);
        Due.is("asked ahead of the RULE", x.asked(0, 1, 3, 1), 0);
        Due.is("asked by less than 0", x.asked(0, 2, 3, 1), 1);
        Due.is("asked of another SORT", x.asked(0, 2, 4, 1), 0);
        Due.is("asked before it was told", x.asked(0, 2, 3, 0), 0);
        Due.is("one who came later", x.asked(1, 1000, 3, 1), 1);
        int[][] wrong = {{2, 2, 3, 1}, {-1, 2, 3, 1}, {0, -1, 3, 1}, {0, 1001, 3, 1}, {0, 2, -1, 1},
            {0, 2, 10, 1}, {0, 2, 3, -1}, {0, 2, 3, 2}};
        for (int[] a : wrong) {
            Due.is("asked " + java.util.Arrays.toString(a), x.asked(a[0], a[1], a[2], a[3]), -1);
        }
    }

    private static void askedLetters() {
        DiaryHouse x = new DiaryHouse();
        x.person(3, 47, 6);
        x.line(0, 0, 9, 9, -1, -1);
        Due.rule(x, "s:1000*m", 0, 0);
        Due.is("shown (so that letters hold something)", x.shown(0, 7, 9, 0), 1);
        Due.rule(x, "q:a=47&p=3&w=6&t=8&k=5&m=0&e=0&r=0?1", 0, 1);
        Due.is("asked by all letters", x.asked(0, 8, 5, 0), 1);
        Due.is("asked on another DAY", x.asked(0, 9, 5, 0), 0);
    }

    /** Whether a SUM is worth a number that is not below 0. */
    private static void worth(String sum, int want) {
        DiaryHouse x = new DiaryHouse();
        x.person(3, 47, 6);
        Due.rule(x, "q:" + sum + "=" + want / 1000 + "*1000+" + want % 1000 + "?1", 0, 0);
        Due.is(sum + " is worth " + want, x.asked(0, 8, 5, 0), 1);
    }

    private static void sums() {
        worth("1+2*3", 7);
        worth("[1+2]*3", 9);
        worth("9-4-3", 2);
        worth("9-[4-3]", 8);
        worth("100/10/5", 2);
        worth("100/[10/5]", 50);
        worth("7/2*2", 6);
        worth("10-7/2", 7);
        worth("10+[3-10]/2", 7);
        worth("0-[0-7]/2", 3);
        worth("5/0", 0);
        worth("5/0+3", 3);
        worth("[3-3]/[2-2]", 0);
        worth("9999*9999", 1000000);
        worth("9999*9999-1", 999999);
        worth("9999*9999/9999*9", 900);
        worth("1000*1000+5-5", 999995);
        worth("0-[0-9999]*9999", 1000000);
        worth("[0-1000]*1000-5+1000*1000+7", 7);
        worth("[0-9999]*9999+1000*1000", 0);
        worth("9999*9999*9999*9999", 1000000);
        worth("a*1000+p*100+w*10", 47360);
        worth("0012", 12);
        worth("1 2".replace(" ", "") + " + 3 * [ 4 - 1 ]", 21);
    }

    private static void holds(String condition, boolean want) {
        DiaryHouse x = new DiaryHouse();
        x.person(3, 47, 6);
        Due.rule(x, "q:" + condition + "?1", 0, 0);
        Due.is(condition, x.asked(0, 8, 5, 0), want ? 1 : 0);
    }

    private static void conditions() {
        holds("1=1", true);
        holds("1=2", false);
        holds("1<2", true);
        holds("2<2", false);
        holds("3<2", false);
        holds("3>2", true);
        holds("2>2", false);
        holds("1>2", false);
        holds("0-1<0", true);
        holds("1=1|1=2&1=2", true);
        holds("(1=1|1=2)&1=2", false);
        holds("1=2&1=2|1=1", true);
        holds("1=2|1=2|1=1", true);
        holds("1=1&1=1&1=2", false);
        holds("1<2&2>1&1=1", true);
        holds("1<2&!2<1&!1>2", true);
        holds("!1=2", true);
        holds("!!1=2", false);
        holds("!1=2&1=2", false);
        holds("!(1=2&1=2)", true);
        holds("!1=1|1=1", true);
        holds("!(1=1|1=1)", false);
        holds("!!!!!!1=1", true);
        holds("1+1=2&2*3>5", true);
        holds("(a=47)&!(p=2)", true);
    }

    private static void clauses() {
        DiaryHouse x = new DiaryHouse();
        for (int place = 0; place < 5; place++) {
            x.person(place, 20, 0);
        }
        Due.rule(x, "s:1;q:p=0?0;d:1;q:p=1?1;q:p<3?0;q:p=3?7;s:1", 0, 0);
        int[] want = {0, 1, 0, 1, 0};
        for (int person = 0; person < 5; person++) {
            Due.is("asked of PLACE " + person, x.asked(person, 0, 0, 0), want[person]);
        }
        Due.rule(x, "q:1;q:0", 0, 1);
        Due.is("the first CLAUSE counts", x.asked(0, 0, 0, 0), 1);
        Due.rule(x, "q:0;q:1", 0, 2);
        Due.is("though it is 0", x.asked(0, 0, 0, 0), 0);
        Due.rule(x, "s:1", 0, 3);
        Due.is("the one in force alone", x.asked(0, 0, 0, 0), 0);
    }

    private static void shown() {
        DiaryHouse x = new DiaryHouse();
        x.person(0, 20, 1);
        x.days(5);
        x.line(0, 4, 3, -2, -1, -1);
        Due.is("shown without a RULE", x.shown(0, 4, 0, 5), 0);
        Due.rule(x, "s:r-3", 6, 0);
        x.days(1);
        Due.is("shown ahead of the RULE", x.shown(0, 5, 0, 6), 0);
        Due.is("shown to RANK 0", x.shown(0, 6, 0, 6), 1);
        Due.is("shown to RANK 3", x.shown(0, 6, 3, 6), 0);
        Due.is("shown to RANK 9 far behind", x.shown(0, 1000, 9, 5), 1);
        Due.is("not known yet", x.shown(0, 6, 0, 4), -1);
        Due.is("a DAY ahead", x.shown(0, 3, 0, 6), -1);
        Due.is("its own DAY", x.shown(0, 4, 0, 6), 0);
        int[][] wrong = {{1, 6, 0, 6}, {-1, 6, 0, 6}, {0, 1001, 0, 6}, {0, -1, 0, 6}, {0, 6, -1, 6},
            {0, 6, 10, 6}, {0, 6, 0, 7}, {0, 6, 0, -1}};
        for (int[] a : wrong) {
            Due.is("shown " + java.util.Arrays.toString(a), x.shown(a[0], a[1], a[2], a[3]), -1);
        }
    }

    private static void shownLetters() {
        DiaryHouse x = new DiaryHouse();
        x.person(0, 20, 1);
        x.person(3, 47, 6);
        x.days(3);
        x.line(1, 2, 5, -4, -1, -1);
        Due.rule(x, "s:a=47&p=3&w=6&t=9&k=5&m=0-4&e=7&r=8?1", 0, 0);
        Due.is("shown by all letters", x.shown(0, 9, 8, 3), 1);
        Due.is("shown on another DAY", x.shown(0, 8, 8, 3), 0);
        Due.is("shown to another RANK", x.shown(0, 9, 7, 3), 0);
    }

    private static void digest() {
        DiaryHouse x = diary("s:k<9?1;d:3");
        // MOODS: 0: 2, 1: -7, 2: 7, 3: 0, 4: -9 (not shown), 5: 8 (told later), 6: -2 (another DAY)
        digestIs(x, 0, 0, 0, 0, 1, 2, 0);
        Due.is("left", x.left(0, 0, 0, 0), 2);
        digestIs(x, 0, 0, 0, 1, 5, 1, 2);
        Due.is("left later", x.left(0, 0, 0, 1), 3);
        Due.rule(x, "s:k<9?1;d:9", 0, 1);
        digestIs(x, 0, 0, 0, 1, 5, 1, 2, 0, 3);
        Due.is("left", x.left(0, 0, 0, 1), 1);
        digestIs(x, 1, 1, 0, 1, 6);
        digestIs(x, 2, 5, 0, 1);
        Due.is("left of none", x.left(2, 5, 0, 1), 0);
        digestIs(x, 900, 1000, 0, 1);
        int[][] wrong = {{-1, 0, 0, 0}, {0, -1, 0, 0}, {1, 0, 0, 0}, {0, 1001, 0, 0}, {1001, 1001, 0, 0},
            {0, 0, -1, 0}, {0, 0, 10, 0}, {0, 0, 0, -1}, {0, 0, 0, 2}};
        for (int[] a : wrong) {
            String call = java.util.Arrays.toString(a);
            Due.is("digest " + call, x.digest(a[0], a[1], a[2], a[3], -1), -1);
            Due.is("digest " + call, x.digest(a[0], a[1], a[2], a[3], 0), -1);
            Due.is("left " + call, x.left(a[0], a[1], a[2], a[3]), -1);
        }
        Due.is("digest, i -2", x.digest(0, 0, 0, 0, -2), -1);
        Due.is("digest, i MAX", x.digest(0, 0, 0, 0, Integer.MAX_VALUE), -1);
    }

    private static void digestSizes() {
        DiaryHouse x = diary("");
        digestIs(x, 0, 0, 0, 1);
        Due.is("left without a RULE", x.left(0, 0, 0, 1), 6);
        Due.rule(x, "s:1;d:0-3", 0, 0);
        digestIs(x, 0, 0, 0, 1);
        Due.rule(x, "s:1", 0, 1);
        digestIs(x, 0, 0, 0, 1);
        Due.rule(x, "d:3", 0, 2);
        digestIs(x, 0, 0, 0, 1);
        Due.rule(x, "s:1;d:t-r+a+p+w+k+m+e", 0, 3);
        digestIs(x, 0, 4, 2, 1, 4, 5);
        digestIs(x, 0, 0, 0, 1);
        Due.rule(x, "s:1;d:999", 0, 4);
        for (int i = 0; i < 30; i++) {
            x.line(0, 1, 0, 1, -1, -1);
        }
        digestIs(x, 1, 1, 0, 1, 6, 7, 8, 9, 10, 11, 12, 13, 14, 15, 16, 17, 18, 19, 20, 21, 22, 23, 24, 25);
        Due.is("left of 31", x.left(1, 1, 0, 1), 11);
    }

    private static void digestOfOtherDays() {
        DiaryHouse x = diary("s:1;d:1");
        Due.rule(x, "s:e=3&r=4?1;d:2", 3, 1);
        digestIs(x, 0, 2, 4, 1, 4);
        digestIs(x, 0, 3, 4, 1, 4, 5);
        digestIs(x, 0, 3, 4, 0, 4);
        digestIs(x, 0, 3, 5, 1);
        digestIs(x, 0, 4, 4, 1);
        Due.is("left by the RULE of the second DAY", x.left(0, 3, 4, 1), 4);
    }

    /** Its RULE is told on DAY 0, its last two LINES on DAY 1. */
    private static DiaryHouse diary(String rule) {
        DiaryHouse x = new DiaryHouse();
        x.person(0, 20, 1);
        int[][] lines = {{0, 2}, {0, -7}, {0, 7}, {0, 0}, {9, -9}};
        for (int[] l : lines) {
            x.line(0, 0, l[0], l[1], -1, -1);
        }
        if (!rule.isEmpty()) {
            Due.rule(x, rule, 0, 0);
        }
        x.days(1);
        x.line(0, 0, 8, 8, -1, -1);
        x.line(0, 1, 8, -2, -1, -1);
        return x;
    }

    private static void digestIs(DiaryHouse x, int of, int day, int rank, int q, int... lines) {
        String call = "digest(" + of + ", " + day + ", " + rank + ", " + q + ", ";
        Due.is(call + "-1)", x.digest(of, day, rank, q, -1), lines.length);
        for (int i = 0; i < lines.length; i++) {
            Due.is(call + i + ")", x.digest(of, day, rank, q, i), lines[i]);
        }
        Due.is(call + lines.length + ")", x.digest(of, day, rank, q, lines.length), -1);
    }
}
