/** The edges that the document names for promises 12 to 16: each at the edge and a step beyond it. */
public final class RulesEdgesTest {
    /** NOW is 3; a LINE of PERSON 0 for DAY 1, told on DAY 2. */
    private static final Scene DIARY = Scene.persons(2).then("days(2)", "line(0, 1, 5, -4, -1, -1)", "days(1)");

    public static void main(String[] args) {
        forceWithin();
        forceFromADay();
        forceOfSeveral();
        forceAsKnown();
        askedWithin();
        askedAsKnown();
        askedUnlikeNone();
        worthOfTheFirst();
        worthWithout();
        comparisons();
        joinedConditions();
        numbersWithin();
        lowestNumbers();
        cutTowardsNone();
        dividedByNone();
        lettersAtTheirEdges();
        lettersNotTold();
        shownWithin();
        shownOnADay();
        shownAsKnown();
        shownByItsRule();
        digestWithin();
        digestOfADay();
        digestAsKnown();
        digestSize();
        digestOfAlike();
        digestShownOnes();
        digestByTheSecondDay();
        digestParts();
        left();
        leftWithin();
        Due.end();
    }

    /** Promise 12: "The RULE IN FORCE. NONE: none, no such DAY (0 .. 1,000), q." */
    private static void forceWithin() {
        DIARY.is("force(0, 3)", -1);
        Scene s = DIARY.rule("q:1", 0);
        s.bounds("force(%, 3)", 0, 1000, -1);
        s.bounds("force(0, %)", 3, 3, -1);
        Scene.persons(1).rule("q:1", 0).then("days(3)").bounds("force(0, %)", 0, 3, -1);
    }

    /** Promise 12: "each from a DAY (0 .. 1,000) on" and Promise 12: "from DAYS up to it" */
    private static void forceFromADay() {
        DIARY.rule("q:1", 5).each("force(%, 3)", 4, -1, 0, 0);
        DIARY.rule("q:1", 0).each("force(%, 3)", -1, -1, 0, 0);
        DIARY.rule("q:1", 1000).each("force(%, 3)", 999, -1, 0, -1);
        DIARY.rule("q:1", 5).rule("q:1", 7).each("force(%, 3)", 4, -1, 0, 0, 1, 1);
        DIARY.rule("q:1", 7).rule("q:1", 5).each("force(%, 3)", 4, -1, 1, 1, 0, 0);
    }

    /** Promise 12: "the one from the greatest DAY, of several the one told last" */
    private static void forceOfSeveral() {
        Scene s = DIARY.rule("q:1", 5).rule("q:1", 5).rule("q:1", 4);
        s.each("force(%, 3)", 3, -1, 2, 1, 1);
        s.rule("q:1", 5).each("force(%, 3)", 3, -1, 2, 3, 3);
        Scene.persons(0).rule("q:1", 0).rule("q:1", 0).is("force(0, 0)", 1);
    }

    /** Promise 12: "IN FORCE on a DAY as known in q is, of those told up to q" */
    private static void forceAsKnown() {
        Scene s = new Scene().rule("q:1", 0).then("days(2)").rule("q:1", 0).then("days(1)").rule("q:1", 1);
        s.each("force(0, %)", -1, -1, 0, 0, 1, 1, -1);
        s.each("force(1, %)", -1, -1, 0, 0, 1, 2, -1);
        s.each("force(1000, %)", -1, -1, 0, 0, 1, 2, -1);
    }

    /** Promise 13: "Whether a PERSON is ASKED (1, 0). NONE: no such ones." */
    private static void askedWithin() {
        DIARY.is("asked(0, 0, 0, 3)", 0);
        Scene s = DIARY.rule("q:1", 0);
        s.is("asked(0, 0, 0, 3)", 1);
        for (Scene one : new Scene[] {DIARY, s}) {
            one.bounds("asked(%, 0, 0, 3)", 0, 1, -1);
            one.bounds("asked(0, %, 0, 3)", 0, 1000, -1);
            one.bounds("asked(0, 0, %, 3)", 0, 9, -1);
            one.bounds("asked(0, 0, 0, %)", 0, 3, -1);
        }
        new Scene().refuses("asked(0, 0, 0, 0)", -1);
        Scene.persons(24).bounds("asked(%, 0, 0, 0)", 0, 23, -1);
    }

    /** Promise 13: "by what was told on DAYS up to q" (a RULE that is told on q itself counts) */
    private static void askedAsKnown() {
        DIARY.rule("q:1", 0).each("asked(0, 0, 0, %)", -1, -1, 0, 0, 0, 1, -1);
        DIARY.rule("q:1", 4).each("asked(0, %, 0, 3)", 3, 0, 1);
    }

    /** Promise 13: "ASKED is a PERSON on a DAY about a SORT, if WORTH of q is unlike 0 (a p w t k)." */
    private static void askedUnlikeNone() {
        Scene s = DIARY.rule("q:k-5", 0);
        s.each("asked(0, 0, %, 3)", 4, 1, 0, 1);
        // one that STOPPED is ASKED as others
        s.then("stop(0, 0)").each("asked(0, 0, %, 3)", 4, 1, 0, 1);
    }

    /** Promise 13: "the SUM of its first CLAUSE whose CONDITION holds (or has none)" */
    private static void worthOfTheFirst() {
        asks("q:0;q:1", 0);
        asks("q:1;q:0", 1);
        asks("q:1=2?1;q:0", 0);
        asks("q:1=2?0;q:1", 1);
        asks("q:1=1?0;q:1", 0);
        asks("q:1=1?1;q:0", 1);
        asks("q:1=2?1;q:1=1?0;q:1", 0);
        asks("s:0;d:0;q:1", 1);
        asks("s:1;d:1;q:0", 0);
        asks("q:1=2?1;s:1;d:1", 0);
    }

    /** Promise 13: "0 without (or without a RULE)" */
    private static void worthWithout() {
        DIARY.is("asked(0, 0, 0, 3)", 0);
        asks("s:1", 0);
        asks("d:1", 0);
        asks("s:1;d:1", 0);
        asks("q:1=2?1", 0);
        DIARY.rule("q:1", 1).each("asked(0, %, 0, 3)", 0, 0, 1);
        DIARY.is("shown(0, 1, 0, 3)", 0);
        DIARY.rule("q:1;d:1", 0).is("shown(0, 1, 0, 3)", 0);
        DIARY.rule("q:1;s:1", 0).is("digest(1, 1, 0, 3, -1)", 0);
        DIARY.rule("q:1;d:1", 0).is("digest(1, 1, 0, 3, -1)", 0);
        DIARY.rule("s:1;d:1", 0).is("digest(1, 1, 0, 3, -1)", 1);
    }

    private static void asks(String rule, long want) {
        DIARY.rule(rule, 0).is("asked(0, 0, 0, 3)", want);
    }

    private static void holds(String condition) {
        asks("q:" + condition + "?1", 1);
        asks("q:!(" + condition + ")?1", 0);
    }

    /** Promise 13: "or SUM, one of = < >, SUM" (alike ones, and a step less and more) */
    private static void comparisons() {
        String[] numbers = {"0-1000*1000", "0-1", "0", "1", "9999", "1000*1000"};
        for (int left = 0; left < numbers.length; left++) {
            for (int right = 0; right < numbers.length; right++) {
                String both = "q:" + numbers[left] + "%" + numbers[right] + "?1";
                asks(both.replace("%", "="), left == right ? 1 : 0);
                asks(both.replace("%", "<"), left < right ? 1 : 0);
                asks(both.replace("%", ">"), left > right ? 1 : 0);
            }
        }
    }

    /** Promise 13: "CONDITION: PARTS with | between; PART: UNITS with & between; UNIT: ! UNIT, ( CONDITION )" (each
     * way that two and three of them can hold) */
    private static void joinedConditions() {
        for (int bits = 0; bits < 8; bits++) {
            boolean a = (bits & 1) != 0;
            boolean b = (bits & 2) != 0;
            boolean c = (bits & 4) != 0;
            String one = a ? "1=1" : "1=2";
            String two = b ? "2>1" : "2<1";
            String three = c ? "0<1" : "0>1";
            asks("q:" + one + "|" + two + "&" + three + "?1", a || b && c ? 1 : 0);
            asks("q:" + one + "&" + two + "|" + three + "?1", a && b || c ? 1 : 0);
            asks("q:(" + one + "|" + two + ")&" + three + "?1", (a || b) && c ? 1 : 0);
            asks("q:" + one + "&(" + two + "|" + three + ")?1", a && (b || c) ? 1 : 0);
            asks("q:!" + one + "|" + two + "?1", !a || b ? 1 : 0);
            asks("q:!" + one + "&!" + two + "?1", !a && !b ? 1 : 0);
            asks("q:!(" + one + "|" + two + ")?1", !(a || b) ? 1 : 0);
            asks("q:!!" + one + "?1", a ? 1 : 0);
            asks("q:!!!!!!" + one + "?1", a ? 1 : 0);
            asks("q:!!!!!" + one + "?1", a ? 0 : 1);
            asks("q:((((((" + one + "))))))?1", a ? 1 : 0);
        }
    }

    /** Promise 13: "Behind each sign numbers are within -1,000,000 .. 1,000,000" (the greatest) */
    private static void numbersWithin() {
        // 999 * 1001 is 999,999
        holds("1000*1000=999*1001+1");
        holds("999*1001<1000*1000");
        holds("1000*1000+1=1000*1000");
        holds("1000*1000+0-1=999*1001");
        holds("1000*1000+1-1=999*1001");
        holds("999*1001+1-1=999*1001");
        holds("999*1001+2-1=999*1001");
        holds("999*1001+3-2=999*1001-1");
        holds("1000*1001=1000*1000");
        holds("1000*1001-1=999*1001");
        holds("9999*9999*9999=1000*1000");
        holds("9999*9999*9999*9999*9999*9999*9999=1000*1000");
        holds("1000*1000*1000*1000/1000=1000");
        holds("1000*1000-[0-1000]*1000=1000*1000");
        holds("1000*1000-[0-1]-1=999*1001");
        holds("[0-1000]*[0-1001]=1000*1000");
        holds("1000*1000+[1000*1000]=1000*1000");
        holds("9999=9999");
        holds("9999+1=100*100");
    }

    /** Promise 13: "Behind each sign numbers are within -1,000,000 .. 1,000,000" (the least) */
    private static void lowestNumbers() {
        holds("0-1000*1000<0-999*1001");
        holds("0-1000*1000-1=0-1000*1000");
        holds("0-1000*1000-1+1=0-999*1001");
        holds("0-999*1001-1+1=0-999*1001");
        holds("0-999*1001-2+1=0-999*1001");
        holds("[0-1000]*1001=0-1000*1000");
        holds("[0-1000]*1001+1=0-999*1001");
        holds("1000*[0-1001]=0-1000*1000");
        holds("[0-9999]*9999*9999=0-1000*1000");
        holds("[0-9999]*9999*[0-1]=1000*1000");
        holds("0-1000*1000+1000*1000=0");
        holds("[0-1000*1000]/[0-1]=1000*1000");
        holds("0-1000*1000+[0-1]+1=0-999*1001");
    }

    /** Promise 13: "/ cuts towards 0" */
    private static void cutTowardsNone() {
        holds("7/2=3");
        holds("[0-7]/2=0-3");
        holds("7/[0-2]=0-3");
        holds("[0-7]/[0-2]=3");
        holds("6/2=3");
        holds("8/3=2");
        holds("1/2=0");
        holds("[0-1]/2=0");
        holds("1/[0-2]=0");
        holds("9999*9999/9999=100");
        holds("1/1=1");
        holds("0/5=0");
    }

    /** Promise 13: "by 0 gives 0" */
    private static void dividedByNone() {
        holds("5/0=0");
        holds("0/0=0");
        holds("[0-5]/0=0");
        holds("1000*1000/0=0");
        holds("5/0+3=3");
        holds("3+5/[2-2]=3");
        holds("5/k=0");
        holds("5/0/0=0");
        holds("5/0*7=0");
        holds("5/1=5");
        holds("5/[0-1]=0-5");
    }

    /** Promise 13: "Letters: a AGE, p PLACE, w WORK of the PERSON, t the DAY asked, k a SORT" */
    private static void lettersAtTheirEdges() {
        Scene s = new Scene("person(0, 10, 0)", "person(7, 99, 7)")
                .rule("q:a=10&p=0&w=0&t=0&k=0?1;q:a=99&p=7&w=7&t=1000&k=9?1", 0);
        s.is("asked(0, 0, 0, 0)", 1);
        s.is("asked(1, 1000, 9, 0)", 1);
        s.is("asked(0, 1, 0, 0)", 0);
        s.is("asked(0, 0, 1, 0)", 0);
        s.is("asked(1, 999, 9, 0)", 0);
        s.is("asked(1, 1000, 8, 0)", 0);
        s.is("asked(1, 0, 0, 0)", 0);
    }

    /** Promise 13: "(those that are not told of what is asked are 0)" */
    private static void lettersNotTold() {
        DIARY.rule("q:m=0&e=0&r=0?1;s:m=0-4&e=999&r=9?1", 0).is("asked(0, 3, 5, 3)", 1);
        // also behind calls that told them
        DiaryHouse x = new DiaryHouse();
        x.person(7, 99, 7);
        x.line(0, 0, 9, 9, -1, -1);
        Due.rule(x, "q:m=0&e=0&r=0?1;s:m=9&e=5&r=9&k=9?1;d:a+p+w+k+m+e=0?1", 0, 0);
        Due.is("shown", x.shown(0, 5, 9, 0), 1);
        Due.is("asked behind it", x.asked(0, 5, 9, 0), 1);
        Due.is("shown", x.shown(0, 5, 9, 0), 1);
        Due.is("digest behind it", x.digest(0, 5, 9, 0, -1), 1);
    }

    /** Promise 14: "Whether a LINE may be SHOWN on a DAY (1, 0). NONE: no such ones, told behind q, a DAY ahead
     * of the LINE's." */
    private static void shownWithin() {
        for (Scene s : new Scene[] {DIARY, DIARY.rule("s:1", 0)}) {
            s.bounds("shown(%, 1, 0, 3)", 0, 0, -1);
            s.bounds("shown(0, %, 0, 3)", 1, 1000, -1);
            s.bounds("shown(0, 1, %, 3)", 0, 9, -1);
            s.bounds("shown(0, 1, 0, %)", 2, 3, -1);
        }
        DIARY.is("shown(0, 1, 0, 3)", 0);
        DIARY.rule("s:1", 0).is("shown(0, 1, 0, 3)", 1);
        new Scene().refuses("shown(0, 0, 0, 0)", -1);
    }

    /** Promise 14: "SHOWN on a DAY (of the LINE's DAY or later)" and Promise 14: "a DAY ahead of the LINE's" */
    private static void shownOnADay() {
        Scene s = DIARY.rule("s:e=0?1;s:e=999?1", 0);
        s.each("shown(0, %, 0, 3)", -1, -1, -1, 1, 0);
        s.each("shown(0, %, 0, 3)", 999, 0, 1, -1);
        Scene.persons(1).then("line(0, 0, 0, 0, -1, -1)").rule("s:e=1000?1", 0)
                .each("shown(0, %, 0, 0)", 999, 0, 1, -1);
    }

    /** Promise 14: "A LINE known in q" and Promise 14: "told behind q" */
    private static void shownAsKnown() {
        Scene s = Scene.persons(1).rule("s:1", 0).then("days(2)", "line(0, 0, 5, -4, -1, -1)", "days(1)");
        s.each("shown(0, 5, 0, %)", -1, -1, -1, -1, 1, 1, -1);
        s.rule("s:0", 0).each("shown(0, 5, 0, %)", -1, -1, -1, -1, 1, 0, -1);
    }

    /** Promise 14: "to a RANK (0 .. 9), if WORTH of s is (a p w t k m e r)" and Promise 14: "k a SORT, m the MOOD, e
     * DAYS from that of the LINE to the DAY asked, r a RANK" */
    private static void shownByItsRule() {
        Scene s = DIARY.rule("s:r-4", 0);
        s.each("shown(0, 1, %, 3)", 3, 1, 0, 1);
        s.each("shown(0, 1, %, 3)", -1, -1, 1);
        s.each("shown(0, 1, %, 3)", 9, 1, -1);
        // by the RULE IN FORCE on the DAY asked, not on that of the LINE
        DIARY.rule("s:1", 0).rule("s:0", 2).each("shown(0, %, 0, 3)", 1, 1, 0);
        Scene edges = new Scene("person(7, 99, 7)", "person(0, 10, 0)", "line(0, 0, 9, 9, -1, -1)",
                "line(1, 0, 0, -9, -1, -1)").rule("s:a=99&p=7&w=7&t=1000&k=9&m=9&e=1000&r=9?1", 0)
                .rule("s:a=10&p=0&w=0&t=1&k=0&m=0-9&e=1&r=0?1", 1).rule("s:e=1000&t=1000&r=9&m=9?1", 1000);
        edges.is("shown(0, 1000, 9, 0)", 1);
        edges.is("shown(1, 1000, 9, 0)", 0);
        edges.is("shown(1, 1, 0, 0)", 1);
        edges.is("shown(0, 1, 0, 0)", 0);
    }

    /** Promise 15: "NONE: without, no such DAYS, the second ahead of the first, RANK, q." */
    private static void digestWithin() {
        for (Scene s : new Scene[] {DIARY, DIARY.rule("s:1;d:2", 0)}) {
            s.bounds("digest(%, 1000, 0, 3, -1)", 0, 1000, -1);
            s.bounds("digest(0, %, 0, 3, -1)", 0, 1000, -1);
            s.bounds("digest(1, 1, %, 3, -1)", 0, 9, -1);
            s.bounds("digest(1, 1, 0, %, -1)", 0, 3, -1);
            s.refuses("digest(1001, 1001, 0, 3, -1)", -1);
            s.refuses("digest(-1, -1, 0, 3, -1)", -1);
        }
        DIARY.rule("s:1;d:2", 0).bounds("digest(1, 1, 0, 3, %)", -1, 0, -1);
        DIARY.refuses("digest(1, 1, 0, 3, 0)", -1);
        DIARY.is("digest(1, 1, 0, 3, -1)", 0);
    }

    /** Promise 15: "the second ahead of the first" */
    private static void digestOfADay() {
        Scene s = DIARY.rule("s:1;d:2", 0);
        s.each("digest(1, %, 0, 3, -1)", 0, -1, 1, 1);
        s.each("digest(1, %, 0, 3, 0)", 0, -1, 0, 0);
        s.is("digest(1000, 1000, 0, 3, -1)", 0);
        s.refuses("digest(1000, 999, 0, 3, -1)", -1);
        s.refuses("digest(1, 0, 0, 3, -1)", -1);
        s.is("digest(0, 0, 0, 3, -1)", 0);
        s.is("digest(2, 2, 0, 3, -1)", 0);
    }

    /** Promise 15: "DIGEST of a DAY on a DAY for a RANK as known in q" (what is told on q itself counts) */
    private static void digestAsKnown() {
        Scene s = Scene.persons(1).rule("s:1;d:2", 0).then("days(2)", "line(0, 1, 5, -4, -1, -1)", "days(1)",
                "line(0, 1, 5, 5, -1, -1)");
        s.each("digest(1, 1, 0, %, -1)", -1, -1, 0, 0, 1, 2, -1);
        s.each("digest(1, 1, 0, %, 0)", -1, -1, -1, -1, 0, 1, -1);
        s.each("left(1, 1, 0, %)", -1, -1, 0, 0, 0, 0, -1);
        s.rule("s:1;d:1", 0).each("digest(1, 1, 0, %, -1)", 1, 0, 1, 1);
    }

    /** Promise 15: "the number told by WORTH of d (t: the second DAY, r; within 0 .. 20)" */
    private static void digestSize() {
        Scene s = Scene.persons(1).times(25, "line(0, 0, 0, 1, -1, -1)");
        String[] sums = {"0-1000*1000", "0-2", "0-1", "0", "1", "2", "19", "20", "21", "22", "1000*1000"};
        int[] sizes = {0, 0, 0, 0, 1, 2, 19, 20, 20, 20, 20};
        for (int i = 0; i < sums.length; i++) {
            Scene one = s.rule("s:1;d:" + sums[i], 0);
            one.is("digest(0, 0, 0, 0, -1)", sizes[i]);
            one.is("left(0, 0, 0, 0)", 25 - sizes[i]);
            one.is("digest(0, 0, 0, 0, " + sizes[i] + ")", -1);
            one.is("digest(0, 0, 0, 0, " + (sizes[i] - 1) + ")", sizes[i] == 0 ? 0 : sizes[i] - 1);
        }
        // fewer LINES than told
        Scene few = Scene.persons(1).times(20, "line(0, 0, 0, 1, -1, -1)").rule("s:1;d:20", 0);
        few.is("digest(0, 0, 0, 0, -1)", 20);
        few.then("line(0, 0, 0, 1, -1, -1)").is("digest(0, 0, 0, 0, -1)", 20);
        Scene.persons(1).times(19, "line(0, 0, 0, 1, -1, -1)").rule("s:1;d:20", 0)
                .is("digest(0, 0, 0, 0, -1)", 19);
        // the letters that it is told
        Scene letters = s.rule("s:1;d:t-1+r*2+a+p+w+k+m+e", 0);
        letters.each("digest(0, %, 0, 0, -1)", 0, 0, 0, 1, 2);
        letters.each("digest(0, 2, %, 0, -1)", 0, 1, 3, 5);
    }

    /** Promise 15: "of those with the greatest MOOD without sign, of alike ones the lower" */
    private static void digestOfAlike() {
        int[] moods = {0, 3, -4, 4, -3, 9, -9};
        Scene s = Scene.persons(1);
        for (int mood : moods) {
            s = s.then("line(0, 0, 0, " + mood + ", -1, -1)");
        }
        int[] order = {5, 6, 2, 3, 1, 4, 0};
        for (int size = 0; size <= moods.length; size++) {
            Scene one = s.rule("s:1;d:" + size, 0);
            one.is("digest(0, 0, 0, 0, -1)", size);
            for (int i = 0; i < moods.length; i++) {
                one.is("digest(0, 0, 0, 0, " + i + ")", i < size ? order[i] : -1);
            }
        }
    }

    /** Promise 15: "of LINES for the first one that may be SHOWN on the second one" */
    private static void digestShownOnes() {
        Scene s = Scene.persons(2).then("days(1)", "line(0, 0, 1, 9, -1, -1)", "line(0, 1, 2, 8, -1, -1)",
                "line(1, 0, 2, 1, -1, -1)").rule("s:k=2&e=r?1;d:20", 0);
        s.is("digest(0, 0, 0, 1, -1)", 1);
        s.is("digest(0, 0, 0, 1, 0)", 2);
        s.is("digest(0, 1, 0, 1, -1)", 0);
        s.is("digest(0, 1, 1, 1, 0)", 2);
        s.is("digest(1, 1, 0, 1, 0)", 1);
        s.is("left(0, 0, 0, 1)", 1);
        s.is("left(0, 1, 0, 1)", 2);
    }

    /** Promise 15: "(by the RULE IN FORCE on the DAY asked, of a DIGEST on the second one)" */
    private static void digestByTheSecondDay() {
        Scene s = Scene.persons(1).times(3, "line(0, 0, 0, #, -1, -1)").rule("s:1;d:1", 0).rule("s:1;d:2", 5)
                .rule("s:m=0?1;d:3", 6);
        s.each("digest(0, %, 0, 0, -1)", 4, 1, 2, 1);
        s.each("digest(0, %, 0, 0, 0)", 4, 2, 2, 0);
        s.each("left(0, %, 0, 0)", 4, 2, 1, 2);
    }

    /** Promise 15: "its i-th LINE (i NONE: how many)" */
    private static void digestParts() {
        Scene s = Scene.persons(1).times(3, "line(0, 0, 0, #, -1, -1)").rule("s:1;d:20", 0);
        s.each("digest(0, 0, 0, 0, %)", -2, -1, 3, 2, 1, 0, -1);
        s.bounds("digest(0, 0, 0, 0, %)", -1, 2, -1);
        Scene full = Scene.persons(1).times(25, "line(0, 0, 0, 0, -1, -1)").rule("s:1;d:20", 0);
        full.bounds("digest(0, 0, 0, 0, %)", -1, 19, -1);
    }

    /** Promise 16: "LEFT: how many LINES known for that DAY it has not." */
    private static void left() {
        Scene s = Scene.persons(1).then("days(1)").times(3, "line(0, 0, 0, #, -1, -1)")
                .then("line(0, 1, 0, 0, -1, -1)", "days(1)", "line(0, 0, 0, 5, -1, -1)");
        s.each("left(0, 0, 0, %)", -1, -1, 0, 3, 4, -1);
        s.each("left(%, 1000, 0, 2)", -1, -1, 4, 1, 0);
        s.rule("s:1;d:4", 0).is("left(0, 0, 0, 2)", 0);
        s.rule("s:1;d:5", 0).is("left(0, 0, 0, 2)", 0);
        s.rule("s:1;d:3", 0).is("left(0, 0, 0, 2)", 1);
        s.rule("s:0;d:20", 0).is("left(0, 0, 0, 2)", 4);
        s.rule("s:m>0?1;d:20", 0).is("left(0, 0, 0, 2)", 1);
        Scene.persons(1).times(200, "line(0, 0, 0, 0, -1, -1)").rule("s:1;d:99", 0).is("left(0, 0, 0, 0)", 180);
    }

    /** Promise 16: "LEFT. NONE: no such ones." */
    private static void leftWithin() {
        for (Scene s : new Scene[] {DIARY, DIARY.rule("s:1;d:2", 0)}) {
            s.bounds("left(%, 1000, 0, 3)", 0, 1000, -1);
            s.bounds("left(1, %, 0, 3)", 1, 1000, -1);
            s.bounds("left(1, 1, %, 3)", 0, 9, -1);
            s.bounds("left(1, 1, 0, %)", 0, 3, -1);
            s.refuses("left(1001, 1001, 0, 3)", -1);
            s.refuses("left(-1, -1, 0, 3)", -1);
        }
    }
}
