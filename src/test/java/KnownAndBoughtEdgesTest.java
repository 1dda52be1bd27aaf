/** The edges that the document names for promises 35 to 42: each at the edge and a step beyond it. */
public final class KnownAndBoughtEdgesTest {
    private static final int HIDDEN = -1000000;

    public static void main(String[] args) {
        alikeWithin();
        alikeByBits();
        alikeItself();
        hideWithin();
        hideForSoMany();
        hideFewest();
        hideLeastBits();
        hideNobody();
        questionWithin();
        questionsFull();
        buyWithin();
        buyNothing();
        buyForSoMuch();
        buyLeastPrice();
        buyLowerQuestion();
        judgeWithin();
        judgeDearer();
        lotWithin();
        lotOfAll();
        lotGoesRound();
        besideWithin();
        besideForADay();
        besideOfThoseDrawn();
        countWithin();
        countAtTheLimits();
        countStoppedByNow();
        countOfWhatIsRefused();
        Due.end();
    }

    /** Promise 35: "ALIKE by bits 0 .. 7. NONE: no such ones." */
    private static void alikeWithin() {
        for (Scene s : new Scene[] {Scene.persons(1), Scene.persons(2), Scene.persons(24)}) {
            int last = (int) s.answer("count(1)") - 1;
            s.bounds("alike(%, 7)", 0, last, -1);
            s.bounds("alike(0, %)", 0, 7, -1);
        }
        new Scene().refuses("alike(0, 0)", -1);
        new Scene().refuses("alike(-1, 0)", -1);
    }

    /** Promise 35: "KNOWN BY some of PLACE (1), STRATUM (2), WORK (4) (bits)" */
    private static void alikeByBits() {
        Scene s = new Scene("person(0, 24, 0)", "person(1, 24, 0)", "person(0, 25, 0)", "person(0, 24, 1)");
        s.each("alike(0, %)", 0, 4, 3, 3, 2, 3, 2, 2, 1);
        s.each("alike(1, %)", 0, 4, 1, 3, 1, 3, 1, 2, 1);
        s.each("alike(2, %)", 0, 4, 3, 1, 1, 3, 2, 1, 1);
        s.each("alike(3, %)", 0, 4, 3, 3, 2, 1, 1, 1, 1);
    }

    /** Promise 35: "ALIKE of a PERSON: how many PERSONS are alike in all of these (itself, too)." */
    private static void alikeItself() {
        new Scene("person(7, 99, 7)").each("alike(0, %)", 0, 1, 1, 1, 1, 1, 1, 1, 1);
        Scene.persons(24).each("alike(23, %)", 0, 24, 24, 24, 24, 24, 24, 24, 24);
        // of one STRATUM, though of unlike AGES
        new Scene("person(0, 45, 0)", "person(0, 64, 0)", "person(0, 65, 0)", "person(0, 44, 0)")
                .each("alike(%, 7)", 0, 2, 2, 1, 1);
    }

    private static Scene people(String... persons) {
        Scene s = new Scene();
        for (String one : persons) {
            s = s.then("person(" + one + ")");
        }
        return s;
    }

    /** Promise 36: "HIDE: bits. NONE: none, m below 1." */
    private static void hideWithin() {
        for (Scene s : new Scene[] {new Scene(), Scene.persons(3)}) {
            s.is("hide(1)", 0);
            s.refuses("hide(0)", -1);
            s.refuses("hide(-1)", -1);
            s.refuses("hide(-2147483648)", -1);
        }
        Scene.persons(3).is("hide(3)", 0);
        Scene.persons(3).refuses("hide(4)", -1);
        Scene.persons(3).refuses("hide(2147483647)", -1);
    }

    /** Promise 36: "so that each PERSON has m ALIKE or more by the rest" and Promise 36: "there may be none" */
    private static void hideForSoMany() {
        Scene s = people("0, 20, 0", "0, 20, 0", "0, 20, 0", "1, 20, 0", "1, 20, 0");
        s.each("hide(%)", 0, -1, 0, 0, 1, 1, 1, -1);
        people("0, 20, 0", "1, 30, 1").each("hide(%)", 0, -1, 0, 7, -1);
        people("0, 20, 0").each("hide(%)", 0, -1, 0, -1);
        Scene.persons(24).each("hide(%)", 23, 0, 0, -1);
        Scene.persons(23).then("person(7, 99, 7)").each("hide(%)", 1, 0, 7, 7);
        // the one without others is the first, or the last
        people("1, 20, 0", "0, 20, 0", "0, 20, 0").is("hide(2)", 1);
        people("0, 20, 0", "0, 20, 0", "1, 20, 0").is("hide(2)", 1);
    }

    /** Promise 36: "HIDE for at least m: the fewest of the three that must be hidden" */
    private static void hideFewest() {
        // 4 alone, though 1 with 2 is less in bits
        people("0, 20, 0", "0, 20, 1", "1, 30, 0", "1, 30, 1").is("hide(2)", 4);
        people("0, 20, 0", "0, 20, 1").is("hide(2)", 4);
        people("0, 20, 0", "0, 30, 0").is("hide(2)", 2);
        people("0, 20, 0", "1, 20, 0").is("hide(2)", 1);
        people("0, 20, 0", "0, 20, 0").is("hide(2)", 0);
        people("0, 20, 0", "1, 30, 0").is("hide(2)", 3);
        people("0, 20, 0", "1, 20, 1").is("hide(2)", 5);
        people("0, 20, 0", "0, 30, 1").is("hide(2)", 6);
        people("0, 20, 0", "1, 30, 1").is("hide(2)", 7);
    }

    /** Promise 36: "of several the least sum of bits" */
    private static void hideLeastBits() {
        // any one of the three
        people("0, 20, 0", "1, 20, 0", "0, 30, 0", "1, 30, 0", "0, 20, 1", "1, 20, 1", "0, 30, 1", "1, 30, 1")
                .each("hide(%)", 1, 0, 1, 3, 3, 7, 7, 7, 7, -1);
        // 2 or 4
        people("0, 20, 0", "0, 20, 1", "0, 30, 0", "0, 30, 1").is("hide(2)", 2);
        // 1 or 4
        people("0, 20, 0", "0, 20, 1", "1, 20, 0", "1, 20, 1").is("hide(2)", 1);
    }

    /** Promise 36: "there may be none" (of nobody each has as many as asked for) */
    private static void hideNobody() {
        new Scene().each("hide(%)", -1, -1, -1, 0, 0, 0);
        new Scene().is("hide(25)", 0);
        new Scene().is("hide(2147483647)", 0);
    }

    /** Promise 37: "QUESTIONS (8 at most): a price (1 .. 50), SORTS they tell (bits 0 .. 1,023)." */
    private static void questionWithin() {
        for (Scene s : new Scene[] {new Scene(), new Scene("question(3, 9)")}) {
            s.bounds("question(%, 1)", 1, 50, -1);
            s.bounds("question(1, %)", 0, 1023, -1);
        }
        new Scene("question(50, 1023)").each("judge(1, %)", 49, -1, 10);
        new Scene("question(1, 0)").each("judge(1, %)", 0, -1, 0);
    }

    /** Promise 37: "A QUESTION: its number. NONE: out of bounds, there are eight." */
    private static void questionsFull() {
        for (int n = 0; n < 8; n++) {
            new Scene().times(n, "question(1, 1)").is("question(50, 1023)", n);
        }
        Scene s = new Scene().times(8, "question(1, 1)");
        s.refuses("question(1, 2)", -1);
        s.is("count(8)", 8);
        s.is("buy(400)", 1);
        s.is("judge(255, 400)", 1);
        DiaryHouse x = new DiaryHouse();
        for (int i = 0; i < 8; i++) {
            Due.is("question(0, 1)", x.question(0, 1), -1);
            Due.is("question(1, 1024)", x.question(1, 1024), -1);
            Due.is("question(1, 1)", x.question(1, 1), i);
        }
    }

    /** Promise 38: "BUY: QUESTIONS as bits. NONE: coin (0 .. 400)." */
    private static void buyWithin() {
        new Scene().bounds("buy(%)", 0, 400, -1);
        Scene s = new Scene().times(8, "question(50, #)");
        s.bounds("buy(%)", 0, 400, -1);
        Scene all = new Scene();
        for (int i = 0; i < 8; i++) {
            all = all.then("question(50, " + (1 << i) + ")");
        }
        all.is("buy(400)", 255);
        all.is("buy(399)", 127);
        all.is("buy(50)", 1);
        all.is("buy(49)", 0);
    }

    /** Promise 38: "those that together tell most SORTS; of several the least price" (what tells nothing more is
     * left) */
    private static void buyNothing() {
        new Scene().is("buy(400)", 0);
        new Scene("question(1, 0)").is("buy(400)", 0);
        new Scene("question(1, 0)", "question(2, 4)").is("buy(400)", 2);
        new Scene("question(1, 4)", "question(2, 4)").is("buy(400)", 1);
    }

    /** Promise 38: "BUY for so much coin" */
    private static void buyForSoMuch() {
        Scene s = new Scene("question(3, 1)", "question(4, 6)");
        s.each("buy(%)", 0, 0, 0, 0, 1, 2, 2, 2, 3, 3);
        new Scene("question(1, 1)").each("buy(%)", 0, 0, 1);
        // bits count as SORTS, not as a number
        new Scene("question(1, 512)", "question(1, 3)").is("buy(1)", 2);
        new Scene("question(1, 512)", "question(1, 511)").is("buy(1)", 2);
        new Scene("question(1, 3)", "question(1, 3)", "question(2, 12)").is("buy(3)", 5);
    }

    /** Promise 38: "of several the least price" */
    private static void buyLeastPrice() {
        new Scene("question(6, 1)", "question(5, 2)").is("buy(6)", 2);
        new Scene("question(5, 1)", "question(6, 2)").is("buy(6)", 1);
        new Scene("question(5, 1)", "question(6, 2)", "question(10, 3)").is("buy(11)", 4);
        new Scene("question(5, 1)", "question(6, 2)", "question(11, 3)").is("buy(11)", 3);
        new Scene("question(5, 1)", "question(6, 2)", "question(12, 3)").is("buy(12)", 3);
    }

    /** Promise 38: "of several the one that has the lower QUESTION where two first differ" */
    private static void buyLowerQuestion() {
        new Scene("question(5, 1)", "question(5, 2)").is("buy(5)", 1);
        new Scene("question(5, 1)", "question(5, 1)", "question(5, 2)").is("buy(10)", 5);
        // 0 with 3 against 1 with 2, and against 2 with 1: the one with 0, though its bits are more
        new Scene("question(3, 1)", "question(4, 3)", "question(2, 12)", "question(3, 14)").is("buy(6)", 9);
        // 0 with 1 against 2 alone: the first that differs is 0
        new Scene("question(2, 1)", "question(3, 2)", "question(5, 3)").is("buy(5)", 3);
        new Scene("question(5, 3)", "question(3, 2)", "question(2, 1)").is("buy(5)", 1);
    }

    /** Promise 39: "A ROW judged. -2: no such QUESTIONS, coin." */
    private static void judgeWithin() {
        Scene s = new Scene();
        s.bounds("judge(%, 0)", 0, 0, -2);
        s.bounds("judge(0, %)", 0, 400, -2);
        for (int n = 1; n <= 8; n++) {
            s = s.then("question(50, " + (1 << n) + ")");
            s.bounds("judge(%, 400)", 0, (1 << n) - 1, -2);
            s.bounds("judge(1, %)", 0, 400, -2);
            s.is("judge(" + (1 << n - 1) + ", 400)", 1);
            s.is("judge(" + ((1 << n) - 1) + ", 400)", n);
        }
    }

    /** Promise 39: "ROWS judged: a set of QUESTIONS: how many SORTS; NONE, if it is dearer." */
    private static void judgeDearer() {
        Scene s = new Scene("question(3, 1)", "question(4, 7)");
        s.each("judge(0, %)", -1, -2, 0, 0);
        s.each("judge(1, %)", 2, -1, 1, 1);
        s.each("judge(2, %)", 3, -1, 3, 3);
        s.each("judge(3, %)", 6, -1, 3, 3);
        s.is("judge(3, 400)", 3);
        Scene full = new Scene().times(8, "question(50, 1023)");
        full.each("judge(255, %)", 399, -1, 10, -2);
    }

    /** Promise 40: "LOT: the i-th PERSON drawn of n. NONE: i, n below 1 or more than there are." */
    private static void lotWithin() {
        Scene s = Scene.persons(3);
        s.bounds("lot(%, 5, 0)", 1, 3, -1);
        s.bounds("lot(3, 5, %)", 0, 2, -1);
        s.bounds("lot(2, 5, %)", 0, 1, -1);
        s.bounds("lot(1, 5, %)", 0, 0, -1);
        new Scene().refuses("lot(1, 5, 0)", -1);
        new Scene().refuses("lot(0, 5, 0)", -1);
        Scene.persons(24).bounds("lot(%, 5, 0)", 1, 24, -1);
        Scene.persons(24).bounds("lot(24, 5, %)", 0, 23, -1);
    }

    /** Promise 40: "the one drawn has, among those not drawn yet, by numbers, the place" */
    private static void lotOfAll() {
        for (int n = 1; n <= 24; n++) {
            Scene s = Scene.persons(n);
            long met = 0;
            for (int i = 0; i < n; i++) {
                met |= 1L << s.answer("lot(" + n + ", 77, " + i + ")");
            }
            Due.is("all of " + n + " are drawn", met, (1L << n) - 1);
        }
        // of fewer the same ones come first: all are drawn from
        Scene s = Scene.persons(5);
        for (int n = 1; n <= 5; n++) {
            for (int i = 0; i < n; i++) {
                s.is("lot(" + n + ", 9, " + i + ")", s.answer("lot(5, 9, " + i + ")"));
            }
        }
    }

    /** Promise 40: "x, at first the seed, becomes x times 6364136223846793005 and 1442695040888963407 (64 bits,
     * going round) for each" and Promise 40: "(x shifted right by 33, without sign) modulo how many these are" */
    private static void lotGoesRound() {
        Scene s = Scene.persons(24);
        long[] seeds = {0, 1, -1, Long.MAX_VALUE, Long.MIN_VALUE, 1L << 33, (1L << 33) - 1, 1L << 32, 5, 1234567};
        java.math.BigInteger round = java.math.BigInteger.ONE.shiftLeft(64);
        for (long seed : seeds) {
            java.math.BigInteger x = java.math.BigInteger.valueOf(seed).mod(round);
            java.util.List<Integer> left = new java.util.ArrayList<>();
            for (int i = 0; i < 24; i++) {
                left.add(i);
            }
            for (int i = 0; i < 24; i++) {
                x = x.multiply(new java.math.BigInteger("6364136223846793005"))
                        .add(new java.math.BigInteger("1442695040888963407")).mod(round);
                int at = x.shiftRight(33).mod(java.math.BigInteger.valueOf(left.size())).intValue();
                s.is("lot(24, " + seed + ", " + i + ")", left.remove(at));
            }
        }
    }

    /** Promise 41: "BESIDE. HIDDEN: no such n, DAY (0 .. NOW)." */
    private static void besideWithin() {
        Scene s = Scene.persons(3).then("days(3)");
        s.bounds("beside(%, 5, 0)", 1, 3, HIDDEN);
        s.bounds("beside(1, 5, %)", 0, 3, HIDDEN);
        new Scene().refuses("beside(1, 5, 0)", HIDDEN);
        new Scene().refuses("beside(0, 5, 0)", HIDDEN);
        Scene.persons(24).bounds("beside(%, 5, 0)", 1, 24, HIDDEN);
        Scene.persons(1).bounds("beside(1, 5, %)", 0, 0, HIDDEN);
        new Scene("days(400)", "days(400)", "days(200)", "person(0, 20, 0)").bounds("beside(1, 5, %)", 0, 1000, HIDDEN);
    }

    /** Promise 41: "DAY (0 .. NOW)" (so one day later a DAY more is told) */
    private static void besideForADay() {
        Scene s = Scene.persons(1).then("days(3)", "line(0, 3, 0, 4, -1, -1)", "line(0, 0, 0, 2, -1, -1)");
        s.each("beside(1, 5, %)", -1, HIDDEN, 2, 0, 0, 4, HIDDEN);
        s.then("days(1)").each("beside(1, 5, %)", 3, 4, 0, HIDDEN);
    }

    /** Promise 41: "BESIDE: the sum of MOODS of LINES of those drawn for a DAY as known NOW." */
    private static void besideOfThoseDrawn() {
        // drawn by 5 are 1, then 2, then 0
        Scene s = Scene.persons(3).then("line(0, 0, 0, 1, -1, -1)", "line(1, 0, 0, -9, -1, -1)",
                "line(2, 0, 0, 4, -1, -1)");
        s.each("beside(%, 5, 0)", 0, HIDDEN, -9, -5, -4, HIDDEN);
        s.then("days(1)", "line(1, 0, 0, 7, -1, -1)").each("beside(%, 5, 0)", 1, -2, 2, 3);
        Scene.persons(1).times(200, "line(0, 0, 0, 9, -1, -1)").is("beside(1, 5, 0)", 1800);
    }

    /** Promise 42: "0 NOW, 1 PERSONS, 2 LINES, 3 RULES, 4 HAPPENINGS told, 5 MARKS told, 6 WATCHERS, 7 WANTED, 8
     * QUESTIONS, 9 bytes of the TAPE, 10 PERSONS that STOPPED by NOW as known NOW, 11 people of the LAND. NONE for
     * others." */
    private static void countWithin() {
        new Scene().bounds("count(%)", 0, 11, -1);
        Scene s = Scene.persons(2).then("days(3)").times(4, "line(0, 0, 0, 0, -1, -1)");
        for (int i = 0; i < 5; i++) {
            s = s.rule("q:1", 0);
        }
        s = s.times(6, "happen(0, 0, 0, true)").times(7, "mark(0, 0, 1)").times(3, "watcher(0, 0)")
                .times(8, "want(0, 0)").then("question(1, 1)", "stop(0, 0)", "land(7, 3, 12)").tape("q:1+1+1+1+");
        s.each("count(%)", -1, -1, 3, 2, 4, 5, 6, 7, 3, 8, 1, 10, 1, 12, -1);
        s.bounds("count(%)", 0, 11, -1);
    }

    /** Promise 42: "4 HAPPENINGS told, 5 MARKS told" (each that was told, alike ones too; and all at their most) */
    private static void countAtTheLimits() {
        Scene s = Scene.persons(24).then("days(400)").times(100, "happen(0, 0, 0, true)")
                .times(200, "line(0, 0, 0, 0, -1, -1)").times(4, "watcher(0, 0)").times(8, "want(0, 0)")
                .times(8, "question(1, 1)");
        s.each("count(%)", 0, 400, 24, 200, 0, 100, 0, 4, 8, 8, 0, 0, 0);
        Scene marks = Scene.persons(1).then("line(0, 0, 0, 0, -1, -1)").times(200, "mark(0, 0, 5)");
        marks.is("count(5)", 200);
        Scene rules = new Scene();
        for (int i = 0; i < 20; i++) {
            rules = rules.rule("q:1", 0);
        }
        rules.is("count(3)", 20);
        new Scene().times(8, "feed(-1, -1, -1, -1, -1)").is("count(9)", 160);
        new Scene("days(400)", "days(400)", "days(200)").is("count(0)", 1000);
        Scene.persons(24).times(24, "stop(#, 0)").is("count(10)", 24);
    }

    /** Promise 42: "10 PERSONS that STOPPED by NOW as known NOW" */
    private static void countStoppedByNow() {
        Scene s = Scene.persons(3).then("days(3)");
        s.then("stop(0, 2)").is("count(10)", 1);
        s.then("stop(0, 3)").is("count(10)", 1);
        s.then("stop(0, 4)").is("count(10)", 0);
        s.then("stop(0, 4)", "days(1)").is("count(10)", 1);
        s.then("stop(0, 0)", "stop(0, 0)").is("count(10)", 1);
        s.then("stop(0, 0)", "stop(0, 4)").is("count(10)", 0);
        s.then("stop(0, 4)", "stop(0, 0)").is("count(10)", 1);
        s.then("stop(0, 0)", "stop(1, 3)", "stop(2, 4)").is("count(10)", 2);
        s.then("stop(2, 1000)").is("count(10)", 0);
    }

    /** Promise 42: "What is refused answers as told and changes nothing." (so it is not counted) */
    private static void countOfWhatIsRefused() {
        DiaryHouse x = new DiaryHouse();
        x.days(401);
        x.person(8, 20, 0);
        x.line(0, 0, 0, 0, -1, -1);
        x.rule(0);
        x.happen(8, 0, 0, true);
        x.mark(0, 0, 0);
        x.watcher(1, 0);
        x.want(0, 24);
        x.question(0, 0);
        x.end(1);
        x.stop(0, 0);
        x.land(0, 0, 10000);
        for (int what = 0; what <= 11; what++) {
            Due.is("count(" + what + ") behind what was refused", x.count(what), 0);
        }
    }
}
