/** The edges that the document names for promises 21 to 25: each at the edge and a step beyond it. */
public final class MarksEdgesTest {
    private static final int HIDDEN = -1000000;
    /** NOW is 3; two LINES are told on DAY 2. */
    private static final Scene DIARY = Scene.persons(1).then("days(2)").times(2, "line(0, 0, 0, 0, -1, -1)")
            .then("days(1)");

    public static void main(String[] args) {
        markWithin();
        marksFull();
        markedWithin();
        markedAsKnown();
        markedNone();
        agreeWithin();
        agreeWithItself();
        agreeCounted();
        agreeAsKnown();
        habitWithin();
        habitWithout();
        habitCut();
        habitAsKnown();
        heldWithin();
        heldByTwo();
        heldOfSeveral();
        heldAsKnown();
        Due.end();
    }

    /** Promise 21: "of a READER (0 .. 5) on a LINE: 0 .. 9" and Promise 21: "A MARK. False: no such ones, out of
     * bounds; there were 200." */
    private static void markWithin() {
        for (Scene s : new Scene[] {DIARY, DIARY.then("mark(0, 0, 5)", "mark(1, 0, 5)")}) {
            s.bounds("mark(%, 0, 5)", 0, 5, 0);
            s.bounds("mark(0, %, 5)", 0, 1, 0);
            s.bounds("mark(0, 0, %)", 0, 9, 0);
        }
        Scene.persons(1).refuses("mark(0, 0, 0)", 0);
        DIARY.then("mark(0, 0, 0)", "mark(5, 1, 9)").is("marked(0, 0, 3)", 0);
        DIARY.then("mark(0, 0, 0)", "mark(5, 1, 9)").is("marked(5, 1, 3)", 9);
        Scene full = Scene.persons(1).times(200, "line(0, 0, 0, 0, -1, -1)");
        full.bounds("mark(0, %, 5)", 0, 199, 0);
        full.then("mark(5, 199, 9)").each("marked(5, %, 0)", 198, -1, 9, -1);
    }

    /** Promise 21: "MARKS (200 at most)" and Promise 21: "there were 200" */
    private static void marksFull() {
        DIARY.times(199, "mark(0, 0, 3)").is("mark(0, 0, 4)", 1);
        DIARY.times(199, "mark(0, 0, 3)").then("mark(0, 0, 4)").is("marked(0, 0, 3)", 4);
        Scene s = DIARY.times(200, "mark(0, 0, 3)");
        s.is("count(5)", 200);
        s.refuses("mark(0, 0, 4)", 0);
        s.refuses("mark(0, 0, 3)", 0);
        s.refuses("mark(1, 1, 3)", 0);
        // those that were refused are none of the 200
        DiaryHouse x = new DiaryHouse();
        x.person(0, 20, 1);
        x.line(0, 0, 0, 0, -1, -1);
        for (int i = 0; i < 200; i++) {
            Due.is("mark of 10", x.mark(0, 0, 10), false);
            Due.is("mark " + i, x.mark(0, 0, i % 10), true);
        }
        Due.is("a 201st", x.mark(0, 0, 5), false);
        Due.is("marked", x.marked(0, 0, 0), 9);
    }

    /** Promise 22: "A READER's MARK of a LINE as known in q. NONE: none, no such ones." */
    private static void markedWithin() {
        Scene s = DIARY.then("mark(0, 0, 5)", "mark(5, 0, 6)", "mark(0, 1, 7)");
        s.each("marked(%, 0, 3)", -1, -1, 5, -1, -1, -1, -1, 6, -1);
        s.each("marked(0, %, 3)", -1, -1, 5, 7, -1);
        s.each("marked(0, 0, %)", 2, -1, 5, -1);
        s.bounds("marked(0, %, 3)", 0, 1, -1);
        s.bounds("marked(0, 0, %)", 3, 3, -1);
        s.bounds("marked(%, 0, 3)", 5, 5, -1);
        s.refuses("marked(-1, 0, 3)", -1);
        DIARY.times(6, "mark(#, 0, 5)").bounds("marked(%, 0, 3)", 0, 5, -1);
        new Scene().refuses("marked(0, 0, 0)", -1);
        Scene full = Scene.persons(1).times(200, "line(0, 0, 0, 0, -1, -1)").then("mark(0, 199, 5)");
        full.bounds("marked(0, %, 0)", 199, 199, -1);
    }

    /** Promise 22: "as known in q the last told up to q" */
    private static void markedAsKnown() {
        Scene s = DIARY.then("mark(0, 0, 5)", "days(1)", "mark(0, 0, 6)", "mark(0, 0, 2)", "days(1)",
                "mark(0, 0, 0)", "days(1)");
        s.each("marked(0, 0, %)", -1, -1, -1, -1, -1, 5, 2, 0, 0, -1);
    }

    /** Promise 22: "NONE: none" */
    private static void markedNone() {
        DIARY.is("marked(0, 0, 3)", -1);
        DIARY.then("mark(1, 0, 5)", "mark(0, 1, 5)").is("marked(0, 0, 3)", -1);
        DIARY.then("mark(0, 0, 0)").is("marked(0, 0, 3)", 0);
    }

    /** Promise 23: "AGREE: 0 alike, 1 both. NONE: no such ones, one and the same." */
    private static void agreeWithin() {
        for (Scene s : new Scene[] {DIARY, DIARY.then("mark(0, 0, 5)", "mark(1, 0, 5)", "mark(5, 0, 4)")}) {
            s.bounds("agree(%, 2, 3, 1)", 0, 5, -1);
            s.bounds("agree(2, %, 3, 1)", 0, 5, -1);
            s.bounds("agree(0, 1, %, 1)", 0, 3, -1);
            s.bounds("agree(0, 1, 3, %)", 0, 1, -1);
        }
        new Scene().each("agree(0, 5, 0, %)", -1, -1, 0, 0, -1);
    }

    /** Promise 23: "one and the same" */
    private static void agreeWithItself() {
        Scene s = DIARY.then("mark(0, 0, 5)", "mark(5, 0, 5)");
        for (int reader = 0; reader < 6; reader++) {
            s.refuses("agree(" + reader + ", " + reader + ", 3, 0)", -1);
            s.refuses("agree(" + reader + ", " + reader + ", 3, 1)", -1);
        }
        s.each("agree(0, %, 3, 0)", -1, -1, -1, 0, 0, 0, 0, 1, -1);
    }

    /** Promise 23: "AGREE: of two READERS: how many LINES both marked alike, and how many both marked." */
    private static void agreeCounted() {
        Scene s = DIARY.then("mark(0, 0, 5)");
        agreeIs(s, 0, 0);
        agreeIs(s.then("mark(1, 1, 5)"), 0, 0);
        agreeIs(s.then("mark(2, 0, 5)"), 0, 0);
        agreeIs(s.then("mark(1, 0, 4)"), 0, 1);
        agreeIs(s.then("mark(1, 0, 6)"), 0, 1);
        agreeIs(s.then("mark(1, 0, 5)"), 1, 1);
        agreeIs(DIARY.then("mark(0, 0, 0)", "mark(1, 0, 0)"), 1, 1);
        agreeIs(s.then("mark(1, 0, 5)", "mark(0, 1, 9)", "mark(1, 1, 8)"), 1, 2);
        agreeIs(s.then("mark(1, 0, 5)", "mark(0, 1, 9)", "mark(1, 1, 9)"), 2, 2);
        // told again counts once
        agreeIs(s.then("mark(0, 0, 5)", "mark(1, 0, 5)", "mark(1, 0, 5)"), 1, 1);
        Scene all = Scene.persons(1).times(100, "line(0, 0, 0, 0, -1, -1)").times(100, "mark(0, #, 3)")
                .times(100, "mark(1, #, 3)");
        all.each("agree(1, 0, 0, %)", 0, 100, 100);
    }

    private static void agreeIs(Scene s, int alike, int both) {
        s.each("agree(0, 1, 3, %)", -1, -1, alike, both, -1);
        s.each("agree(1, 0, 3, %)", -1, -1, alike, both, -1);
    }

    /** Promise 23: "as known in q (0 .. NOW): by what was told on DAYS up to q" */
    private static void agreeAsKnown() {
        Scene s = DIARY.then("mark(0, 0, 5)", "mark(1, 0, 4)", "days(1)", "mark(1, 0, 5)", "days(1)",
                "mark(0, 0, 6)");
        s.each("agree(0, 1, %, 0)", -1, -1, 0, 0, 0, 0, 1, 0, -1);
        s.each("agree(0, 1, %, 1)", -1, -1, 0, 0, 0, 1, 1, 1, -1);
    }

    /** Promise 24: "HABIT. HIDDEN: no such ones." */
    private static void habitWithin() {
        for (Scene s : new Scene[] {DIARY, DIARY.then("mark(0, 0, 5)", "mark(1, 0, 3)")}) {
            s.bounds("habit(%, 3)", 0, 5, HIDDEN);
            s.bounds("habit(0, %)", 0, 3, HIDDEN);
        }
        new Scene().each("habit(%, 0)", -1, HIDDEN, 0, 0, 0, 0, 0, 0, HIDDEN);
    }

    /** Promise 24: "cut (0 without)" (so none by how many none) */
    private static void habitWithout() {
        DIARY.is("habit(0, 3)", 0);
        DIARY.then("mark(0, 0, 9)").is("habit(0, 3)", 0);
        DIARY.then("mark(1, 0, 9)").is("habit(0, 3)", 0);
        DIARY.then("mark(0, 0, 9)", "mark(1, 1, 0)").is("habit(0, 3)", 0);
        DIARY.then("mark(0, 0, 9)", "mark(1, 0, 0)").is("habit(0, 3)", 9000);
        DIARY.then("mark(0, 0, 9)", "mark(1, 0, 0)").is("habit(1, 3)", -9000);
        DIARY.then("mark(0, 0, 9)", "mark(1, 0, 9)").is("habit(0, 3)", 0);
    }

    /** Promise 24: "HABIT of a READER: over all LINES and all other READERS that marked them, too: the sum of its
     * MARK less theirs, times 1,000, by how many such, cut (0 without)." */
    private static void habitCut() {
        Scene s = DIARY.then("mark(0, 0, 5)", "mark(1, 0, 4)", "mark(2, 0, 5)", "mark(3, 0, 4)");
        s.each("habit(%, 3)", 0, 666, -666, 666, -666, 0);
        s.then("mark(0, 1, 0)", "mark(5, 1, 9)").is("habit(0, 3)", (1 + 0 + 1 - 9) * 1000 / 4);
        // towards 0: 2 by 3, and -2 by 3
        Scene both = DIARY.times(6, "mark(#, 0, 4)");
        both.then("mark(0, 0, 5)").each("habit(%, 3)", 0, 1000, -200, -200);
        both.then("mark(0, 0, 3)").each("habit(%, 3)", 0, -1000, 200, 200);
        Scene full = Scene.persons(1).times(33, "line(0, 0, 0, 0, -1, -1)");
        for (int reader = 0; reader < 6; reader++) {
            full = full.times(33, "mark(" + reader + ", #, " + (reader == 0 ? 9 : 0) + ")");
        }
        full.each("habit(%, 0)", 0, 9000, -1800);
    }

    /** Promise 24: "HABIT" (as known in q: what is told on q itself counts) */
    private static void habitAsKnown() {
        Scene s = DIARY.then("mark(0, 0, 5)", "mark(1, 0, 4)", "days(1)", "mark(1, 0, 9)");
        s.each("habit(0, %)", -1, HIDDEN, 0, 0, 0, 1000, -4000, HIDDEN);
    }

    /** Promise 25: "The MARK of a HELD LINE. NONE: it is not, no such ones." */
    private static void heldWithin() {
        Scene s = DIARY.then("mark(0, 0, 5)", "mark(1, 0, 5)", "mark(0, 1, 0)", "mark(1, 1, 0)");
        s.bounds("held(%, 3)", 0, 1, -1);
        s.bounds("held(0, %)", 3, 3, -1);
        s.each("held(%, 3)", -1, -1, 5, 0, -1);
        new Scene().refuses("held(0, 0)", -1);
        DIARY.is("held(0, 3)", -1);
        Scene full = Scene.persons(1).times(200, "line(0, 0, 0, 0, -1, -1)").then("mark(2, 199, 9)", "mark(5, 199, 9)");
        full.each("held(%, 0)", 198, -1, 9, -1);
    }

    /** Promise 25: "HELD is a LINE, if two READERS or more marked it alike" */
    private static void heldByTwo() {
        DIARY.then("mark(0, 0, 5)").is("held(0, 3)", -1);
        DIARY.then("mark(0, 0, 5)", "mark(0, 0, 5)").is("held(0, 3)", -1);
        DIARY.then("mark(0, 0, 5)", "mark(5, 0, 5)").is("held(0, 3)", 5);
        DIARY.then("mark(0, 0, 5)", "mark(5, 0, 4)").is("held(0, 3)", -1);
        DIARY.then("mark(0, 0, 5)", "mark(5, 1, 5)").is("held(0, 3)", -1);
        DIARY.then("mark(0, 0, 0)", "mark(5, 0, 0)").is("held(0, 3)", 0);
        DIARY.then("mark(0, 0, 9)", "mark(5, 0, 9)").is("held(0, 3)", 9);
        DIARY.times(6, "mark(#, 0, #)").is("held(0, 3)", -1);
        DIARY.times(6, "mark(#, 0, 7)").is("held(0, 3)", 7);
    }

    /** Promise 25: "its MARK is that which most have, of several the lowest" */
    private static void heldOfSeveral() {
        Scene s = DIARY.then("mark(0, 0, 5)", "mark(1, 0, 5)", "mark(2, 0, 3)");
        s.is("held(0, 3)", 5);
        s.then("mark(3, 0, 3)").is("held(0, 3)", 3);
        s.then("mark(3, 0, 3)", "mark(4, 0, 3)").is("held(0, 3)", 3);
        s.then("mark(3, 0, 3)", "mark(4, 0, 5)").is("held(0, 3)", 5);
        s.then("mark(3, 0, 3)", "mark(4, 0, 0)", "mark(5, 0, 0)").is("held(0, 3)", 0);
        s.then("mark(3, 0, 3)", "mark(4, 0, 9)", "mark(5, 0, 9)").is("held(0, 3)", 3);
        s.then("mark(3, 0, 3)", "mark(4, 0, 3)", "mark(5, 0, 5)").is("held(0, 3)", 3);
    }

    /** Promise 25: "as known in q the last told up to q" */
    private static void heldAsKnown() {
        Scene s = DIARY.then("mark(0, 0, 5)", "days(1)", "mark(1, 0, 5)", "days(1)", "mark(1, 0, 4)", "days(1)",
                "mark(0, 0, 4)");
        s.each("held(0, %)", -1, -1, -1, -1, -1, -1, 5, -1, 4, -1);
    }
}
