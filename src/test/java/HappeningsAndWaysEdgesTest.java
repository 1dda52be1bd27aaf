/** The edges that the document names for promises 17 to 20: each at the edge and a step beyond it. */
public final class HappeningsAndWaysEdgesTest {
    /** NOW is 3; PERSON 0 lives in PLACE 4, the other two in PLACE 0; LINE 0 is told on DAY 2 for DAY 1. */
    private static final Scene DIARY = new Scene("person(4, 20, 1)", "person(0, 20, 1)", "person(0, 20, 1)",
            "days(2)", "line(0, 1, 5, 0, 7, -1)", "days(1)");
    private static final Scene NINE = Scene.persons(24).then("days(9)");

    public static void main(String[] args) {
        happenWithin();
        happenFull();
        truthWithin();
        truths();
        truthOfItsOwn();
        truthToldLast();
        truthAsKnown();
        wayWithin();
        wayWithoutAWord();
        wordOfTheLeastDay();
        wordAsKnown();
        itsOwn();
        brokenWithoutAWord();
        brokenByALaterDay();
        rounds();
        brokenOrRound();
        longWays();
        bearersWithin();
        bearersCounted();
        Due.end();
    }

    /** Promise 17: "A HAPPENING. False: out of bounds; there were 100." */
    private static void happenWithin() {
        for (String is : new String[] {"true", "false"}) {
            for (Scene s : new Scene[] {new Scene(), DIARY}) {
                s.bounds("happen(%, 1, 5, " + is + ")", 0, 7, 0);
                s.bounds("happen(4, %, 5, " + is + ")", 0, 1000, 0);
                s.bounds("happen(4, 1, %, " + is + ")", 0, 9, 0);
            }
        }
        // for a DAY behind NOW, and NOW at the end
        DIARY.then("happen(4, 4, 5, true)", "days(1)", "line(0, 4, 5, 0, -1, -1)").is("truth(1, 4)", 1);
        Scene end = new Scene("person(7, 20, 1)", "happen(7, 1000, 9, false)", "days(400)", "days(400)",
                "days(200)", "line(0, 1000, 9, 0, -1, -1)");
        end.is("truth(0, 1000)", 0);
    }

    /** Promise 17: "HAPPENINGS (100 at most)" and Promise 17: "there were 100" */
    private static void happenFull() {
        DIARY.times(99, "happen(0, #, 0, true)").then("happen(4, 1, 5, true)").is("truth(0, 3)", 1);
        Scene s = DIARY.then("happen(4, 1, 5, true)").times(99, "happen(4, 1, 5, true)");
        s.is("count(4)", 100);
        s.refuses("happen(4, 1, 5, false)", 0);
        s.refuses("happen(0, 0, 0, true)", 0);
        s.is("truth(0, 3)", 1);
        // those that were refused are none of the 100
        DiaryHouse x = new DiaryHouse();
        for (int i = 0; i < 100; i++) {
            Due.is("happen of SORT 10", x.happen(0, 0, 10, true), false);
            Due.is("happen " + i, x.happen(0, 0, 0, true), true);
            Due.is("HAPPENINGS", x.count(4), i + 1);
        }
        Due.is("a 101st", x.happen(0, 0, 0, true), false);
    }

    /** Promise 18: "What a LINE is (0 .. 2) as known in q. NONE: no such ones, told behind q." */
    private static void truthWithin() {
        DIARY.bounds("truth(%, 3)", 0, 0, -1);
        DIARY.bounds("truth(0, %)", 2, 3, -1);
        Scene s = DIARY.then("happen(4, 1, 5, false)");
        s.bounds("truth(%, 3)", 0, 0, -1);
        s.bounds("truth(0, %)", 2, 3, -1);
        new Scene().refuses("truth(0, 0)", -1);
        Scene full = Scene.persons(1).times(200, "line(0, 0, 0, 0, -1, -1)");
        full.bounds("truth(%, 0)", 0, 199, -1);
    }

    /** Promise 18: "A LINE is SURE (1), CAN'T be (0), or MAY be (2)" */
    private static void truths() {
        DIARY.is("truth(0, 3)", 2);
        DIARY.then("happen(4, 1, 5, true)").is("truth(0, 3)", 1);
        DIARY.then("happen(4, 1, 5, false)").is("truth(0, 3)", 0);
    }

    /** Promise 18: "by what is known of its SORT on its DAY in its PERSON's PLACE" */
    private static void truthOfItsOwn() {
        for (String is : new String[] {"true", "false"}) {
            for (String where : new String[] {"3, 1, 5", "5, 1, 5", "4, 0, 5", "4, 2, 5", "4, 1, 4", "4, 1, 6"}) {
                DIARY.then("happen(" + where + ", " + is + ")").is("truth(0, 3)", 2);
            }
        }
    }

    /** Promise 18: "that something of a SORT was in a PLACE on a DAY (0 .. 1,000), or that it was not: as known in
     * q the one told last up to q" */
    private static void truthToldLast() {
        DIARY.then("happen(4, 1, 5, true)", "happen(4, 1, 5, false)").is("truth(0, 3)", 0);
        DIARY.then("happen(4, 1, 5, false)", "happen(4, 1, 5, true)").is("truth(0, 3)", 1);
        DIARY.then("happen(4, 1, 5, false)", "happen(4, 1, 5, true)", "happen(4, 1, 4, false)").is("truth(0, 3)", 1);
    }

    /** Promise 18: "by what was told on DAYS up to q" and Promise 18: "told behind q" */
    private static void truthAsKnown() {
        Scene s = DIARY.then("happen(4, 1, 5, true)", "days(1)", "happen(4, 1, 5, false)", "days(1)");
        int[] wants = {-1, -1, -1, 2, 1, 0, 0, -1};
        for (int q = -1; q <= 6; q++) {
            s.is("truth(0, " + q + ")", wants[q + 1]);
        }
        // told before the LINE was
        Scene.persons(1).then("happen(0, 0, 0, true)", "days(1)", "line(0, 0, 0, 0, -1, -1)")
                .each("truth(0, %)", 0, -1, 1, -1);
    }

    /** Promise 19: "WAY back of a PERSON's WORD of a SAYING as known in q: 0 the PERSON it ends with, 1 how (0
     * FIRST, 1 BROKEN, 2 ROUND), 2 LONG. NONE: it has none, no such ones." */
    private static void wayWithin() {
        Scene s = DIARY.then("line(2, 0, 0, 0, 0, -1)", "line(2, 0, 0, 0, 29, 0)", "line(0, 0, 0, 0, 0, -1)");
        s.bounds("way(%, 0, 3, 0)", 2, 2, -1);
        s.bounds("way(2, %, 3, 0)", 0, 0, -1);
        s.bounds("way(2, 29, 3, %)", 0, 2, -1);
        s.bounds("way(2, 29, %, 0)", 3, 3, -1);
        s.bounds("way(2, 29, 3, %)", 0, 2, -1);
        s.each("way(2, 29, 3, %)", -1, -1, 2, 1, 0, -1);
        s.each("way(2, %, 3, 0)", 28, -1, 2, -1);
        s.each("way(%, 0, 3, 0)", -1, -1, 0, -1, 2, -1);
        new Scene().refuses("way(0, 0, 0, 0)", -1);
        // a LINE without a SAYING is no WORD of one
        s.then("line(0, 0, 0, 0, -1, -1)").refuses("way(0, -1, 3, 0)", -1);
        s.then("line(0, 0, 0, 0, -1, -1)").refuses("bearers(-1, 3)", -1);
    }

    /** Promise 19: "NONE: it has none" */
    private static void wayWithoutAWord() {
        DIARY.each("way(0, 6, 3, %)", 0, -1, -1, -1);
        DIARY.each("way(1, 7, 3, %)", 0, -1, -1, -1);
        DIARY.each("way(0, 7, 3, %)", 0, 0, 0, 0);
        DIARY.each("way(0, 7, %, 0)", -1, -1, -1, -1, 0, 0, -1);
    }

    private static void ways(Scene s, String call, int end, int how, int steps) {
        s.each("way(" + call + ", %)", 0, end, how, steps);
    }

    /** Promise 19: "WORD of a SAYING a PERSON HAS is its LINE with it known in q for the least DAY, of several the
     * lowest." */
    private static void wordOfTheLeastDay() {
        Scene s = NINE.then("line(0, 5, 0, 0, 3, 1)", "line(1, 5, 0, 0, 3, -1)", "line(2, 0, 0, 0, 3, -1)");
        ways(s, "0, 3, 9", 1, 0, 1);
        // of the same DAY the lower, of a DAY less the later told
        ways(s.then("line(0, 5, 0, 0, 3, 2)"), "0, 3, 9", 1, 0, 1);
        ways(s.then("line(0, 4, 0, 0, 3, 2)"), "0, 3, 9", 2, 0, 1);
        ways(s.then("line(0, 6, 0, 0, 3, 2)"), "0, 3, 9", 1, 0, 1);
        ways(s.then("line(0, 4, 0, 0, 2, 2)"), "0, 3, 9", 1, 0, 1);
        ways(s.then("line(0, 4, 0, 0, -1, -1)"), "0, 3, 9", 1, 0, 1);
        ways(s.then("line(0, 0, 0, 0, 3, -1)"), "0, 3, 9", 0, 0, 0);
        ways(s.then("line(0, 9, 0, 0, 3, -1)"), "0, 3, 9", 1, 0, 1);
    }

    /** Promise 19: "its LINE with it known in q" (what is told on q itself counts) */
    private static void wordAsKnown() {
        Scene s = NINE.then("line(0, 5, 0, 0, 3, 1)", "days(1)", "line(1, 5, 0, 0, 3, 2)", "days(1)",
                "line(0, 4, 0, 0, 3, -1)", "days(1)");
        s.each("way(0, 3, %, 0)", 8, -1, 0, 1, 0, 0, -1);
        s.each("way(0, 3, %, 1)", 8, -1, 1, 1, 0, 0, -1);
        s.each("way(0, 3, %, 2)", 8, -1, 0, 1, 0, 0, -1);
        s.each("way(1, 3, %, 1)", 8, -1, -1, 1, 1, 1, -1);
    }

    /** Promise 19: "till one is its own (FIRST, that PERSON)" */
    private static void itsOwn() {
        ways(NINE.then("line(0, 5, 0, 0, 3, -1)"), "0, 3, 9", 0, 0, 0);
        Scene s = NINE.then("line(23, 5, 0, 0, 3, -1)", "line(0, 5, 0, 0, 3, 23)");
        ways(s, "0, 3, 9", 23, 0, 1);
        // one that heard from PERSON 0 is no own one
        ways(NINE.then("line(1, 5, 0, 0, 3, 0)", "line(0, 5, 0, 0, 3, -1)"), "1, 3, 9", 0, 0, 1);
    }

    /** Promise 19: "or the one it was HEARD from has none or only one for a later DAY (BROKEN)" (none) */
    private static void brokenWithoutAWord() {
        ways(NINE.then("line(0, 5, 0, 0, 3, 1)"), "0, 3, 9", 0, 1, 0);
        ways(NINE.then("line(0, 5, 0, 0, 3, 1)", "line(1, 5, 0, 0, 4, -1)"), "0, 3, 9", 0, 1, 0);
        ways(NINE.then("line(0, 5, 0, 0, 3, 1)", "line(1, 5, 0, 0, -1, -1)"), "0, 3, 9", 0, 1, 0);
        ways(NINE.then("line(0, 5, 0, 0, 3, 1)", "line(1, 5, 0, 0, 3, 2)"), "0, 3, 9", 1, 1, 1);
    }

    /** Promise 19: "or only one for a later DAY (BROKEN)" (the same DAY is not later) */
    private static void brokenByALaterDay() {
        for (int day = 3; day <= 7; day++) {
            Scene s = NINE.then("line(0, 5, 0, 0, 3, 1)", "line(1, " + day + ", 0, 0, 3, -1)");
            ways(s, "0, 3, 9", day > 5 ? 0 : 1, day > 5 ? 1 : 0, day > 5 ? 0 : 1);
            // one that is later beside one that is not
            ways(s.then("line(1, 5, 0, 0, 3, -1)"), "0, 3, 9", 1, 0, 1);
        }
        // held against the WORD ahead of it, not against the first one
        Scene s = NINE.then("line(0, 5, 0, 0, 3, 1)", "line(1, 3, 0, 0, 3, 2)", "line(2, 4, 0, 0, 3, -1)");
        ways(s, "0, 3, 9", 1, 1, 1);
        ways(s.then("line(2, 3, 0, 0, 3, -1)"), "0, 3, 9", 2, 0, 2);
    }

    /** Promise 19: "or a PERSON comes again (ROUND)" */
    private static void rounds() {
        Scene two = NINE.then("line(0, 5, 0, 0, 3, 1)", "line(1, 5, 0, 0, 3, 0)");
        ways(two, "0, 3, 9", 0, 2, 2);
        ways(two, "1, 3, 9", 1, 2, 2);
        Scene into = two.then("line(2, 5, 0, 0, 3, 0)");
        ways(into, "2, 3, 9", 0, 2, 3);
        ways(into.then("line(3, 5, 0, 0, 3, 2)"), "3, 3, 9", 0, 2, 4);
    }

    /** Promise 19: "or the one it was HEARD from has none or only one for a later DAY (BROKEN), or a PERSON comes
     * again (ROUND)" (BROKEN is told first) */
    private static void brokenOrRound() {
        Scene s = NINE.then("line(0, 5, 0, 0, 3, 1)", "line(1, 4, 0, 0, 3, 0)");
        ways(s, "0, 3, 9", 1, 1, 1);
        ways(s, "1, 3, 9", 1, 1, 0);
        ways(s.then("line(0, 4, 0, 0, 3, 1)"), "0, 3, 9", 0, 2, 2);
    }

    /** Promise 19: "It ends with that PERSON whose WORD is its own, or was HEARD so, or that comes again; LONG:
     * how many steps from PERSON to PERSON were taken till there." */
    private static void longWays() {
        Scene s = NINE;
        for (int i = 0; i < 23; i++) {
            s = s.then("line(" + i + ", 5, 0, 0, 3, " + (i + 1) + ")");
        }
        ways(s, "0, 3, 9", 22, 1, 22);
        ways(s, "22, 3, 9", 22, 1, 0);
        ways(s.then("line(23, 5, 0, 0, 3, -1)"), "0, 3, 9", 23, 0, 23);
        ways(s.then("line(23, 5, 0, 0, 3, -1)"), "23, 3, 9", 23, 0, 0);
        ways(s.then("line(23, 6, 0, 0, 3, -1)"), "0, 3, 9", 22, 1, 22);
        ways(s.then("line(23, 5, 0, 0, 3, 0)"), "0, 3, 9", 0, 2, 24);
        ways(s.then("line(23, 5, 0, 0, 3, 0)"), "23, 3, 9", 23, 2, 24);
        ways(s.then("line(23, 5, 0, 0, 3, 22)"), "0, 3, 9", 22, 2, 24);
        ways(s.then("line(23, 5, 0, 0, 3, 22)"), "22, 3, 9", 22, 2, 2);
    }

    /** Promise 20: "BEARERS. NONE: no such SAYING, q." */
    private static void bearersWithin() {
        for (Scene s : new Scene[] {Scene.persons(0).then("days(3)"), DIARY}) {
            s.bounds("bearers(%, 3)", 0, 29, -1);
            s.bounds("bearers(7, %)", 0, 3, -1);
        }
        DIARY.then("line(0, 0, 0, 0, 0, -1)", "line(1, 0, 0, 0, 29, -1)", "line(2, 0, 0, 0, 29, -1)")
                .each("bearers(%, 3)", 28, 0, 2, -1);
    }

    /** Promise 20: "BEARERS: how many PERSONS HAVE it." */
    private static void bearersCounted() {
        DIARY.each("bearers(7, %)", -1, -1, 0, 0, 1, 1, -1);
        DIARY.is("bearers(6, 3)", 0);
        DIARY.then("line(0, 0, 0, 0, 7, 1)").is("bearers(7, 3)", 1);
        DIARY.then("line(2, 3, 0, 0, 7, 1)").is("bearers(7, 3)", 2);
        DIARY.then("line(2, 3, 0, 0, -1, -1)").is("bearers(7, 3)", 1);
        NINE.times(24, "line(#, 0, 0, 0, 7, -1)").is("bearers(7, 9)", 24);
        NINE.times(23, "line(#, 0, 0, 0, 7, -1)").is("bearers(7, 9)", 23);
        // one that STOPPED HAS it yet
        DIARY.then("stop(0, 0)").is("bearers(7, 3)", 1);
    }
}
