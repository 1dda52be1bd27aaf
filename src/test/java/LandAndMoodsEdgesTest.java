/** The edges that the document names for promises 26 to 31: each at the edge and a step beyond it. */
public final class LandAndMoodsEdgesTest {
    private static final int HIDDEN = -1000000;
    /** NOW is 3; LINE 0 of SORT 5, MOOD 4 is told on DAY 2 for DAY 1, of a PERSON of PLACE 4, STRATUM 1. */
    private static final Scene DIARY = new Scene("person(4, 30, 1)", "days(2)", "line(0, 1, 5, 4, -1, -1)",
            "days(1)");
    private static final Scene NINE = Scene.persons(2).then("days(9)");

    public static void main(String[] args) {
        landWithin();
        landAtFirst();
        landAsItIsNow();
        spanWithin();
        spanOfNobody();
        spanWithoutALine();
        spanOfPlacesWithPeople();
        meansCut();
        spansCut();
        sureOfCut();
        spanAsKnown();
        moodWithin();
        moodCounted();
        moodAsKnown();
        turnWithin();
        turnOfTwoDays();
        turnNeedsBoth();
        turnOfAlike();
        turnExactly();
        turnOfDaysWithin();
        turnAsKnown();
        chanceNoLess();
        chanceRound();
        chanceInOrder();
        lastWithin();
        lastOfSeveral();
        lastAsKnown();
        leanWithin();
        leanOfBoth();
        leanFromADay();
        leanCut();
        leanWithALast();
        Due.end();
    }

    /** Promise 26: "LAND. False: out of bounds." */
    private static void landWithin() {
        for (Scene s : new Scene[] {new Scene(), DIARY.then("land(4, 1, 7)", "land(0, 0, 3)")}) {
            s.bounds("land(%, 0, 5)", 0, 7, 0);
            s.bounds("land(0, %, 5)", 0, 3, 0);
            s.bounds("land(0, 0, %)", 0, 9999, 0);
        }
    }

    /** Promise 26: "LAND: how many people (0 .. 9,999; 0 at first) in a PLACE of a STRATUM" */
    private static void landAtFirst() {
        new Scene().is("count(11)", 0);
        new Scene("land(7, 3, 0)").is("count(11)", 0);
        new Scene("land(7, 3, 1)").is("count(11)", 1);
        new Scene("land(7, 3, 9999)").is("count(11)", 9999);
        Scene full = new Scene();
        for (int place = 0; place < 8; place++) {
            full = full.then("land(" + place + ", 0, 9999)", "land(" + place + ", 1, 9999)",
                    "land(" + place + ", 2, 9999)", "land(" + place + ", 3, 9999)");
        }
        full.is("count(11)", 319968);
        full.each("span(0, 0, 0, %)", 0, -900, 900, 0);
        // all of them sure: MEANS of 900 and -900
        for (int mood : new int[] {9, -9}) {
            Scene wrote = full;
            for (int place = 0; place < 6; place++) {
                for (int age : new int[] {10, 25, 45, 65}) {
                    wrote = wrote.then("person(" + place + ", " + age + ", 0)");
                }
            }
            wrote = wrote.times(24, "line(#, 0, 0, " + mood + ", -1, -1)");
            wrote.each("span(0, 0, 0, %)", 0, mood < 0 ? -900 : 450, mood < 0 ? -450 : 900, 750);
        }
    }

    /** Promise 26: "as it is now" */
    private static void landAsItIsNow() {
        Scene s = DIARY.then("land(4, 1, 7)", "land(4, 1, 5)");
        s.is("count(11)", 5);
        s.then("days(1)", "land(4, 1, 0)").is("count(11)", 0);
        // for a q of before, too
        s.each("span(5, 1, %, 2)", 0, 0, 0, 1000, 1000);
        s.then("days(1)", "land(0, 0, 5)").each("span(5, 1, %, 2)", 0, 0, 0, 500, 500, 500);
        s.then("days(1)", "land(4, 1, 0)").each("span(5, 1, %, 2)", 0, HIDDEN, HIDDEN, HIDDEN, HIDDEN, HIDDEN);
    }

    /** Promise 27: "SPAN: 0 least, 1 greatest, 2 SURE OF. HIDDEN: nobody lives there at all, no such ones." */
    private static void spanWithin() {
        Scene s = DIARY.then("land(4, 1, 7)");
        s.bounds("span(%, 1, 3, 0)", 0, 9, HIDDEN);
        s.bounds("span(5, %, 3, 0)", 0, 1000, HIDDEN);
        s.bounds("span(5, 1, %, 0)", 0, 3, HIDDEN);
        s.bounds("span(5, 1, 3, %)", 0, 2, HIDDEN);
        s.each("span(5, 1, 3, %)", -1, HIDDEN, 400, 400, 1000, HIDDEN);
    }

    /** Promise 27: "nobody lives there at all" */
    private static void spanOfNobody() {
        DIARY.each("span(5, 1, 3, %)", 0, HIDDEN, HIDDEN, HIDDEN);
        DIARY.then("land(4, 1, 0)").each("span(5, 1, 3, %)", 0, HIDDEN, HIDDEN, HIDDEN);
        DIARY.then("land(4, 1, 1)").each("span(5, 1, 3, %)", 0, 400, 400, 1000);
        DIARY.then("land(4, 1, 1)", "land(4, 1, 0)").each("span(5, 1, 3, %)", 0, HIDDEN, HIDDEN, HIDDEN);
        DIARY.then("land(7, 3, 1)").each("span(5, 1, 3, %)", 0, -900, 900, 0);
    }

    /** Promise 27: "without any -900 at least and 900 at most" */
    private static void spanWithoutALine() {
        Scene s = DIARY.then("land(4, 1, 1)");
        for (String other : new String[] {"4, 1", "6, 1", "5, 0", "5, 2", "5, 1000"}) {
            s.each("span(" + other + ", 3, %)", 0, -900, 900, 0);
        }
        s.each("span(5, 1, 1, %)", 0, -900, 900, 0);
        // a MEAN of 0 is not without
        DIARY.then("land(4, 1, 1)", "line(0, 1, 5, -4, -1, -1)").each("span(5, 1, 3, %)", 0, 0, 0, 1000);
        for (int mood : new int[] {-9, 9}) {
            DIARY.then("land(4, 1, 1)", "line(0, 2, 5, " + mood + ", -1, -1)")
                    .each("span(5, 2, 3, %)", 0, mood * 100, mood * 100, 1000);
        }
    }

    /** Promise 27: "of each PLACE and STRATUM with people: WROTE there are LINES of that SORT for that DAY" */
    private static void spanOfPlacesWithPeople() {
        DIARY.then("land(4, 2, 1)").each("span(5, 1, 3, %)", 0, -900, 900, 0);
        DIARY.then("land(3, 1, 1)").each("span(5, 1, 3, %)", 0, -900, 900, 0);
        DIARY.then("land(4, 1, 1)", "land(4, 2, 1)").each("span(5, 1, 3, %)", 0, -250, 650, 500);
        DIARY.then("land(4, 1, 3)", "land(4, 2, 1)").each("span(5, 1, 3, %)", 0, 75, 525, 750);
        // who writes where nobody lives counts nowhere
        DIARY.then("person(4, 24, 0)", "line(1, 1, 5, -9, -1, -1)", "land(4, 1, 3)")
                .each("span(5, 1, 3, %)", 0, 400, 400, 1000);
    }

    /** Promise 27: "its MEAN is the sum of their MOODS times 100, by how many, cut" */
    private static void meansCut() {
        Scene s = DIARY.then("land(4, 1, 1)");
        mean(s, 66, 1, 1, 0);
        mean(s, -66, -1, -1, 0);
        mean(s, 33, 1, 0, 0);
        mean(s, -33, -1, 0, 0);
        mean(s, 100, 1, 1, 1);
        mean(s, 50, 1, 0);
        mean(s, 14, 1, 0, 0, 0, 0, 0, 0);
        mean(s, -14, -1, 0, 0, 0, 0, 0, 0);
    }

    private static void mean(Scene s, int want, int... moods) {
        for (int mood : moods) {
            s = s.then("line(0, 2, 5, " + mood + ", -1, -1)");
        }
        s.each("span(5, 2, 3, %)", 0, want, want, 1000);
    }

    /** Promise 27: "SPAN: the sums of people times MEAN, least and greatest, each by all people, cut." */
    private static void spansCut() {
        // 400 and 900 twice: 2,200 and -1,400 by 3
        DIARY.then("land(4, 1, 1)", "land(0, 0, 2)").each("span(5, 1, 3, %)", 0, -466, 733, 333);
        // the MEAN is cut ahead of the sum: 3 times 66 by 3, and -3 times 66
        Scene s = DIARY.then("land(4, 1, 3)");
        mean(s, 66, 1, 1, 0);
        mean(s, -66, -1, -1, 0);
        // -100 by 3
        DIARY.then("land(4, 1, 1)", "land(0, 0, 2)", "line(0, 2, 5, -1, -1, -1)", "person(0, 20, 0)",
                "line(1, 2, 5, 0, -1, -1)").each("span(5, 2, 3, %)", 0, -33, -33, 1000);
        DIARY.then("land(4, 1, 1)", "land(0, 0, 2)", "line(0, 2, 5, 1, -1, -1)", "person(0, 20, 0)",
                "line(1, 2, 5, 0, -1, -1)").each("span(5, 2, 3, %)", 0, 33, 33, 1000);
    }

    /** Promise 27: "SURE OF: thousandths of people in such places and STRATA in which one WROTE, cut." */
    private static void sureOfCut() {
        DIARY.then("land(4, 1, 1)", "land(0, 0, 2)").is("span(5, 1, 3, 2)", 333);
        DIARY.then("land(4, 1, 2)", "land(0, 0, 1)").is("span(5, 1, 3, 2)", 666);
        DIARY.then("land(4, 1, 1)", "land(0, 0, 999)").is("span(5, 1, 3, 2)", 1);
        DIARY.then("land(4, 1, 1)", "land(0, 0, 1000)").is("span(5, 1, 3, 2)", 0);
        DIARY.then("land(4, 1, 999)", "land(0, 0, 1)").is("span(5, 1, 3, 2)", 999);
        DIARY.then("land(4, 1, 1000)", "land(0, 0, 1)").is("span(5, 1, 3, 2)", 999);
        DIARY.then("land(4, 1, 9999)").is("span(5, 1, 3, 2)", 1000);
    }

    /** Promise 27: "SPAN of a SORT on a DAY as known in q" (what is told on q itself counts) */
    private static void spanAsKnown() {
        Scene s = DIARY.then("land(4, 1, 1)", "days(1)", "line(0, 1, 5, 2, -1, -1)");
        s.each("span(5, 1, %, 0)", -1, HIDDEN, -900, -900, 400, 400, 300, HIDDEN);
        s.each("span(5, 1, %, 2)", -1, HIDDEN, 0, 0, 1000, 1000, 1000, HIDDEN);
    }

    /** Promise 28: "MOOD of a DAY: 0 the sum, 1 how many LINES. HIDDEN: no such ones." */
    private static void moodWithin() {
        for (Scene s : new Scene[] {new Scene("days(3)"), DIARY}) {
            s.bounds("mood(%, 3, 0)", 0, 1000, HIDDEN);
            s.bounds("mood(%, 3, 1)", 0, 1000, HIDDEN);
            s.bounds("mood(1, %, 0)", 0, 3, HIDDEN);
            s.bounds("mood(1, 3, %)", 0, 1, HIDDEN);
        }
        DIARY.each("mood(1, 3, %)", -1, HIDDEN, 4, 1, HIDDEN);
    }

    /** Promise 28: "the sum of MOODS of all LINES for it, and how many" */
    private static void moodCounted() {
        DIARY.each("mood(%, 3, 0)", 0, 0, 4, 0);
        DIARY.each("mood(%, 3, 1)", 0, 0, 1, 0);
        DIARY.then("line(0, 1, 0, -4, 0, -1)").each("mood(1, 3, %)", 0, 0, 2);
        DIARY.then("line(0, 1, 9, -9, 0, -1)").each("mood(1, 3, %)", 0, -5, 2);
        Scene.persons(1).times(200, "line(0, 0, 0, 9, -1, -1)").each("mood(0, 0, %)", 0, 1800, 200);
        Scene.persons(1).times(200, "line(0, 0, 0, -9, -1, -1)").each("mood(0, 0, %)", 0, -1800, 200);
    }

    /** Promise 28: "MOOD of a DAY as known in q" (what is told on q itself counts) */
    private static void moodAsKnown() {
        Scene s = DIARY.then("line(0, 1, 5, 2, -1, -1)", "days(1)");
        s.each("mood(1, %, 0)", -1, HIDDEN, 0, 0, 4, 6, 6, HIDDEN);
        s.each("mood(1, %, 1)", -1, HIDDEN, 0, 0, 1, 2, 2, HIDDEN);
    }

    /** MOODS are told as DAY, MOOD, DAY, MOOD .. */
    private static Scene moods(int... daysAndMoods) {
        Scene s = NINE;
        for (int i = 0; i < daysAndMoods.length; i += 2) {
            s = s.then("line(0, " + daysAndMoods[i] + ", 0, " + daysAndMoods[i + 1] + ", -1, -1)");
        }
        return s;
    }

    private static void turns(Scene s, int day, int chance) {
        s.each("turn(0, 9, 9, %)", -1, -1, day, chance, -1);
    }

    /** Promise 29: "TURN: 0 the DAY, 1 CHANCE. NONE: none, no such DAYS (0 .. 1,000, to behind from), q." */
    private static void turnWithin() {
        Scene s = moods(3, 1, 5, 2);
        s.bounds("turn(%, 9, 9, 0)", 0, 3, -1);
        s.bounds("turn(%, 9, 9, 1)", 0, 3, -1);
        s.bounds("turn(0, %, 9, 0)", 5, 1000, -1);
        s.bounds("turn(0, %, 9, 1)", 5, 1000, -1);
        s.bounds("turn(0, 9, %, 0)", 9, 9, -1);
        s.bounds("turn(0, 9, 9, %)", 0, 1, -1);
        Scene end = new Scene("days(400)", "days(400)", "days(200)", "person(0, 20, 1)",
                "line(0, 999, 0, 0, -1, -1)", "line(0, 1000, 0, 0, -1, -1)");
        end.each("turn(%, 1000, 1000, 0)", 998, 1000, 1000, -1);
        end.each("turn(0, %, 1000, 0)", 998, -1, -1, 1000, -1);
        Scene first = moods(0, 1, 1, 2);
        first.each("turn(%, 1, 9, 0)", -1, -1, 1, -1);
    }

    /** Promise 29: "TURN of DAYS from .. to (at least two)" and Promise 29: "to behind from" */
    private static void turnOfTwoDays() {
        Scene s = moods(3, 1, 4, 2);
        s.is("turn(3, 4, 9, 0)", 4);
        s.is("turn(3, 4, 9, 1)", 2);
        s.refuses("turn(3, 3, 9, 0)", -1);
        s.refuses("turn(4, 3, 9, 0)", -1);
        s.refuses("turn(4, 4, 9, 1)", -1);
        s.is("turn(2, 3, 9, 0)", -1);
        s.is("turn(4, 5, 9, 0)", -1);
        s.refuses("turn(1000, 1000, 9, 0)", -1);
        s.is("turn(999, 1000, 9, 0)", -1);
        s.refuses("turn(1000, 1001, 9, 0)", -1);
    }

    /** Promise 29: "LINES for DAYS ahead of d and those from d on, both not none" */
    private static void turnNeedsBoth() {
        turns(NINE, -1, -1);
        turns(moods(5, 9), -1, -1);
        turns(moods(5, 9, 5, -9, 5, 0), -1, -1);
        turns(moods(0, 9), -1, -1);
        turns(moods(9, 9), -1, -1);
        turns(moods(0, 9, 9, 9), 1, 2);
        turns(moods(8, 9, 9, 9), 9, 2);
        turns(moods(0, 9, 1, 9), 1, 2);
    }

    /** Promise 29: "of alike ones the least" */
    private static void turnOfAlike() {
        // every d from 3 on, up to 7, has the same LINES ahead of it
        turns(moods(2, 1, 7, 9), 3, 2);
        turns(moods(2, 4, 5, 4, 8, 4), 3, 3);
        turns(moods(2, 0, 5, 2, 8, 4), 3, 2);
        // the later one has the greater distance
        turns(moods(2, 0, 5, 1, 8, 4), 6, 1);
        turns(moods(2, 0, 5, 3, 8, 4), 3, 1);
        // alike with unlike signs: 0 and 2, 2 and 0
        turns(moods(2, 0, 3, 4, 4, 2, 5, 0), 3, 3);
    }

    /** Promise 29: "that d with the greatest distance of both means (exactly: by cross products)" */
    private static void turnExactly() {
        // 1/4 and 1/3 would be alike if cut
        turns(moods(1, 0, 2, 0, 3, 1, 3, 0, 4, 0), 3, 5);
        // 12/5 at DAY 3 is a 60th less than 29/12 at DAY 5
        turns(moods(1, -4, 2, -4, 3, 4, 4, -1, 5, -8, 6, -1, 7, -2), 5, 2);
        // 26/3 at DAYS 2 and 4, which numbers with a binary point would tell apart
        turns(moods(1, 9, 2, -4, 3, 9, 4, -4), 2, 4);
        // as many LINES as there can be, of the greatest MOOD and the least
        Scene s = NINE.times(99, "line(0, 1, 0, 9, -1, -1)").then("line(0, 2, 0, -9, -1, -1)")
                .times(100, "line(0, 3, 0, -9, -1, -1)");
        turns(s, 2, 1);
    }

    /** Promise 29: "of all DAYS d, from and 1 .. to" */
    private static void turnOfDaysWithin() {
        Scene s = moods(2, 9, 3, 0, 4, 0, 6, 0, 7, -9);
        s.is("turn(2, 7, 9, 0)", 3);
        s.is("turn(3, 7, 9, 0)", 7);
        s.is("turn(3, 6, 9, 0)", 4);
        s.is("turn(2, 6, 9, 0)", 3);
        s.is("turn(4, 6, 9, 0)", 5);
        s.is("turn(4, 5, 9, 0)", -1);
        s.is("turn(5, 6, 9, 0)", -1);
        s.is("turn(6, 7, 9, 0)", 7);
        s.is("turn(7, 8, 9, 0)", -1);
        s.is("turn(1, 2, 9, 0)", -1);
        s.is("turn(1, 3, 9, 0)", 3);
        s.is("turn(3, 7, 9, 1)", 1);
        s.is("turn(3, 6, 9, 1)", 3);
    }

    /** Promise 29: "as known in q (0 .. NOW): by what was told on DAYS up to q" */
    private static void turnAsKnown() {
        Scene s = moods(2, 1, 3, 2).then("days(1)", "line(0, 5, 0, 9, -1, -1)", "days(1)");
        s.each("turn(0, 9, %, 0)", 8, -1, 3, 4, 4, -1);
        s.each("turn(0, 9, %, 1)", 8, -1, 2, 1, 1, -1);
        s.is("turn(0, 9, -1, 0)", -1);
    }

    /** Promise 29: "how many have at that d a distance that is no less than the true one" */
    private static void chanceNoLess() {
        turns(moods(1, 9, 2, -9, 3, -9, 4, -9), 2, 1);
        turns(moods(1, 9, 2, -9, 3, -9, 4, 9), 2, 4);
        turns(moods(1, 9, 2, -9, 3, 0, 4, 9), 2, 3);
        turns(moods(1, 9, 1, -9, 2, 9, 3, -9), 3, 4);
        turns(moods(1, 5, 1, 1, 2, 9, 2, 4, 3, 2), 3, 3);
        // as far on the other side is no less
        turns(moods(1, 3, 2, -3, 3, 3, 4, -3), 2, 4);
        turns(moods(1, 3, 1, 3, 2, -3, 2, -3), 2, 2);
    }

    /** Promise 29: "each time moved on by one to the next LINE, the last one's to the first, as often as there are
     * LINES" */
    private static void chanceRound() {
        // two LINES: as told, and with both changed
        turns(moods(1, 0, 2, 9), 2, 2);
        // the last one's 0 comes to the first beside 5: 5, 0 | 1, 1, 0 and 0, 5 | ..
        turns(moods(1, 5, 1, 0, 2, 1, 2, 1, 3, 0), 2, 2);
        Scene all = NINE.times(100, "line(0, 1, 0, 0, -1, -1)").times(100, "line(0, 2, 0, 0, -1, -1)");
        turns(all, 2, 200);
        Scene halves = NINE.times(100, "line(0, 1, 0, 1, -1, -1)").times(100, "line(0, 2, 0, -1, -1, -1)");
        turns(halves, 2, 2);
    }

    /** Promise 29: "in the order of DAYS, then numbers" */
    private static void chanceInOrder() {
        turns(moods(1, 5, 1, 1, 2, 9, 2, 4), 2, 2);
        turns(moods(2, 9, 1, 5, 2, 4, 1, 1), 2, 2);
        turns(moods(1, 1, 1, 5, 2, 9, 2, 4), 2, 4);
        turns(moods(1, 1, 2, 9, 1, 5, 2, 4), 2, 4);
        // also where another PERSON wrote between them
        turns(NINE.then("line(1, 1, 0, 1, -1, -1)", "line(0, 2, 9, 9, 0, -1)", "line(0, 1, 3, 5, -1, -1)",
                "line(1, 2, 0, 4, -1, -1)"), 2, 4);
    }

    /** Promise 30: "LAST. NONE: none, no such ones." */
    private static void lastWithin() {
        DIARY.bounds("last(%, 3)", 0, 0, -1);
        DIARY.bounds("last(0, %)", 2, 3, -1);
        DIARY.then("person(0, 20, 1)").is("last(1, 3)", -1);
        new Scene().refuses("last(0, 0)", -1);
        Scene.persons(24).times(24, "line(#, 0, 0, 0, -1, -1)").bounds("last(%, 0)", 0, 23, -1);
    }

    /** Promise 30: "its LINE known for the greatest DAY, of several the greatest number" */
    private static void lastOfSeveral() {
        Scene s = moods(3, 0, 5, 0);
        s.is("last(0, 9)", 1);
        s.then("line(0, 4, 0, 0, -1, -1)").is("last(0, 9)", 1);
        s.then("line(0, 5, 0, 0, -1, -1)").is("last(0, 9)", 2);
        s.then("line(0, 6, 0, 0, -1, -1)").is("last(0, 9)", 2);
        s.then("line(1, 9, 0, 0, -1, -1)").each("last(%, 9)", 0, 1, 2, -1);
        moods(0, 0).is("last(0, 9)", 0);
        // one that STOPPED has it yet
        s.then("stop(0, 0)").is("last(0, 9)", 1);
        Scene.persons(1).times(200, "line(0, 0, 0, 0, -1, -1)").is("last(0, 0)", 199);
    }

    /** Promise 30: "LAST of a PERSON as known in q" (what is told on q itself counts) */
    private static void lastAsKnown() {
        Scene s = DIARY.then("line(0, 1, 0, 0, -1, -1)", "days(1)", "line(0, 0, 0, 0, -1, -1)", "days(1)",
                "line(0, 5, 0, 0, -1, -1)");
        s.each("last(0, %)", -1, -1, -1, -1, 0, 1, 1, 3, -1);
    }

    /** Four PERSONS with LASTS of SORTS 1, 2, 1, 1. */
    private static Scene four() {
        return Scene.persons(4).then("line(0, 0, 1, 0, -1, -1)", "line(1, 0, 2, 0, -1, -1)",
                "line(2, 0, 1, 0, -1, -1)", "line(3, 0, 1, 0, -1, -1)");
    }

    /** Promise 31: "LEAN. HIDDEN: not told, no such ones." */
    private static void leanWithin() {
        Scene s = four().then("stop(0, 0)", "days(3)");
        s.bounds("lean(%, 3)", 0, 9, HIDDEN);
        s.bounds("lean(1, %)", 0, 3, HIDDEN);
        new Scene().refuses("lean(0, 0)", HIDDEN);
        four().refuses("lean(1, 0)", HIDDEN);
    }

    /** Promise 31: "told if there are both" */
    private static void leanOfBoth() {
        Scene s = four();
        s.is("lean(1, 0)", HIDDEN);
        s = s.then("stop(0, 0)");
        s.is("lean(1, 0)", 1000 - 666);
        s = s.then("stop(1, 0)", "stop(2, 0)");
        s.is("lean(1, 0)", 666 - 1000);
        s.then("stop(3, 0)").is("lean(1, 0)", HIDDEN);
        s.then("stop(3, 1)").is("lean(1, 0)", 666 - 1000);
        s.then("stop(3, 1)", "days(1)").is("lean(1, 1)", HIDDEN);
        s.is("lean(9, 0)", 0);
    }

    /** Promise 31: "those that STOPPED (known in q, from a DAY up to q)" */
    private static void leanFromADay() {
        Scene s = four().then("stop(0, 2)", "days(3)", "stop(1, 0)", "days(1)");
        // from DAY 2 on PERSON 0 has STOPPED; from DAY 3 on it is known of PERSON 1
        s.each("lean(1, %)", -1, HIDDEN, HIDDEN, HIDDEN, 1000 - 666, 500 - 1000, 500 - 1000, HIDDEN);
        // told again: the last told up to q
        Scene again = four().then("stop(0, 0)", "days(1)", "stop(0, 5)", "days(1)");
        again.each("lean(1, %)", 0, 1000 - 666, HIDDEN, HIDDEN);
    }

    /** Promise 31: "thousandths (cut) of those that STOPPED (known in q, from a DAY up to q) with a LAST of that
     * SORT less thousandths of the others with one" */
    private static void leanCut() {
        Scene s = four().then("stop(1, 0)");
        s.each("lean(%, 0)", 0, 0, 0 - 1000, 1000 - 0, 0);
        s = four().then("stop(3, 0)");
        // 2/3 and 1/3 are cut each, not their difference
        s.each("lean(%, 0)", 0, 0, 1000 - 666, 0 - 333, 0);
        Scene seven = Scene.persons(7).times(6, "line(#, 0, 1, 0, -1, -1)").then("line(6, 0, 2, 0, -1, -1)",
                "stop(4, 0)", "stop(5, 0)", "stop(6, 0)", "line(3, 0, 2, 0, -1, -1)", "line(2, 0, 3, 0, -1, -1)",
                "person(0, 20, 1)", "person(0, 20, 1)", "line(7, 0, 2, 0, -1, -1)", "line(8, 0, 1, 0, -1, -1)");
        // of the three that STOPPED 2, 1, 0; of the six others 3, 2, 1
        seven.each("lean(%, 0)", 1, 666 - 500, 333 - 333, 0 - 166);
    }

    /** Promise 31: "of PERSONS with a LAST" */
    private static void leanWithALast() {
        Scene s = four().then("person(0, 20, 1)", "person(0, 20, 1)", "stop(4, 0)");
        s.is("lean(1, 0)", HIDDEN);
        s.then("stop(0, 0)").is("lean(1, 0)", 1000 - 666);
        // a LAST that is told behind q is none in q
        Scene later = Scene.persons(2).then("line(0, 0, 1, 0, -1, -1)", "stop(0, 0)", "days(1)",
                "line(1, 0, 1, 0, -1, -1)");
        later.each("lean(1, %)", 0, HIDDEN, 0, HIDDEN);
    }
}
