/** The edges that the document names for promises 1 to 7: each at the edge and a step beyond it. */
public final class PersonsAndLinesEdgesTest {
    private static final int HIDDEN = -1000000;
    /** NOW is 3. */
    private static final Scene TWO = Scene.persons(2).then("days(3)");

    public static void main(String[] args) {
        newObject();
        oneOfTwoObjects();
        lastOfManyCalls();
        constants();
        daysWithin();
        daysAtTheEnd();
        firstNow();
        personWithin();
        personsFull();
        agesOfStrata();
        lineOfAPerson();
        lineForADay();
        lineWithin();
        linesFull();
        lineWithoutASaying();
        lineFromItself();
        lineOfOneThatStopped();
        stoppedAsKnownNow();
        toldParts();
        toldNothing();
        toldWhen();
        stopWithin();
        stopsFull();
        stoppedSince();
        stoppedAsKnown();
        stoppedWithout();
        Due.end();
    }

    /** Promise 1: "DAY 0, nobody writes." */
    private static void newObject() {
        Scene s = new Scene();
        s.each("count(%)", -1, -1, 0, 0, 0, 0, 0, 0, 0, 0, 0, 0, 0, 0, -1);
        s.each("told(0, %)", 0, Scene.THROWN, Scene.THROWN);
        s.is("line(0, 0, 0, 0, -1, -1)", -1);
        s.is("stopped(0, 0)", -1);
        s.is("fault()", 0);
        s.is("force(0, 0)", -1);
        s.is("asked(0, 0, 0, 0)", -1);
        s.is("shown(0, 0, 0, 0)", -1);
        s.is("digest(0, 0, 0, 0, -1)", 0);
        s.is("digest(0, 0, 0, 0, 0)", -1);
        s.is("left(0, 0, 0, 0)", 0);
        s.is("truth(0, 0)", -1);
        s.is("way(0, 0, 0, 0)", -1);
        s.is("bearers(0, 0)", 0);
        s.is("mark(0, 0, 0)", 0);
        s.is("marked(0, 0, 0)", -1);
        s.is("agree(0, 1, 0, 0)", 0);
        s.is("habit(0, 0)", 0);
        s.is("held(0, 0)", -1);
        s.is("span(0, 0, 0, 0)", HIDDEN);
        s.each("mood(0, 0, %)", 0, 0, 0);
        s.each("mood(0, %, 1)", -1, HIDDEN, 0, HIDDEN);
        s.is("turn(0, 1, 0, 0)", -1);
        s.is("last(0, 0)", -1);
        s.is("lean(0, 0)", HIDDEN);
        s.each("table(%)", -2, -2, 0, -2);
        s.is("alike(0, 0)", -1);
        s.is("hide(1)", 0);
        s.is("buy(400)", 0);
        s.is("judge(0, 0)", 0);
        s.is("lot(1, 0, 0)", -1);
        s.is("beside(1, 0, 0)", HIDDEN);
    }

    /** Promise 1: "DAY 0, nobody writes." (so also beside another object that is full) */
    private static void oneOfTwoObjects() {
        DiaryHouse full = new DiaryHouse();
        full.days(5);
        full.person(0, 20, 1);
        full.line(0, 0, 0, 5, 0, -1);
        Due.feed(full, "q:1");
        full.rule(0);
        full.feed(-1, 0, 0, 0, 0);
        full.happen(0, 0, 0, true);
        full.mark(0, 0, 1);
        full.watcher(0, 1);
        full.want(0, 0);
        full.question(1, 1);
        full.stop(0, 0);
        full.land(0, 0, 1);
        DiaryHouse other = new DiaryHouse();
        for (int what = 0; what <= 11; what++) {
            Due.is("another object: count(" + what + ")", other.count(what), 0);
        }
        other.days(1);
        other.person(7, 99, 7);
        Due.is("the full one's NOW", full.count(0), 5);
        Due.is("the full one's PERSONS", full.count(1), 1);
    }

    /** Promise 1: "An object is used for at most 512 calls after it has been made" */
    private static void lastOfManyCalls() {
        Scene s = new Scene().times(24, "person(0, 20, 1)").then("days(400)")
                .times(200, "line(0, #, 0, 1, 0, -1)").times(200, "mark(0, #, 4)").times(60, "stop(1, #)")
                .times(4, "watcher(0, 23)").times(8, "want(#, 9)").times(8, "question(50, 1023)")
                .tape("q:1;d:20;s:1").then("rule(0)").then("happen(0, 199, 0, true)").then("land(0, 0, 9999)")
                .then("land(7, 3, 1)").then("end(0)");
        DiaryHouse x = new DiaryHouse();
        Due.is("calls", s.playOn(x), 511);
        Due.is("the 512th call", x.digest(199, 1000, 9, 400, 0), 199);
    }

    /** Promise 1: "`NONE = -1`: None; refused." and Promise 1: "`HIDDEN = -1000000`: Not told." */
    private static void constants() {
        Due.is("NONE", DiaryHouse.NONE, -1);
        Due.is("HIDDEN", DiaryHouse.HIDDEN, -1000000);
        DiaryHouse x = new DiaryHouse();
        Due.is("what is refused is NONE", x.days(-1), DiaryHouse.NONE);
        Due.is("what is not told is HIDDEN", x.lean(0, 0), DiaryHouse.HIDDEN);
    }

    /** Promise 2: "n DAYS (0 .. 400): NOW." */
    private static void daysWithin() {
        Scene s = new Scene();
        s.is("days(0)", 0);
        s.is("days(1)", 1);
        s.is("days(399)", 399);
        s.is("days(400)", 400);
        s.bounds("days(%)", 0, 400, -1);
        TWO.bounds("days(%)", 0, 400, -1);
        TWO.is("days(400)", 403);
    }

    /** Promise 2: "NONE: n, NOW would be above 1,000." */
    private static void daysAtTheEnd() {
        Scene s = new Scene("days(400)", "days(200)");
        s.is("days(400)", 1000);
        s.then("days(400)").is("count(0)", 1000);
        s = s.then("days(1)");
        s.refuses("days(400)", -1);
        s.is("days(399)", 1000);
        s = s.then("days(398)");
        s.is("days(1)", 1000);
        s.refuses("days(2)", -1);
        s = s.then("days(1)");
        s.is("days(0)", 1000);
        s.refuses("days(1)", -1);
        s.refuses("days(400)", -1);
    }

    /** Promise 2: "NOW is 0 at first, 1,000 at most." */
    private static void firstNow() {
        new Scene().is("count(0)", 0);
        Scene s = new Scene("days(400)", "days(400)", "days(200)", "person(0, 20, 1)");
        s.is("count(0)", 1000);
        s.each("mood(0, %, 1)", 999, 0, 0, HIDDEN);
        s.each("line(0, %, 0, 0, -1, -1)", 999, 0, 0, -1);
    }

    /** Promise 3: "a PLACE (0 .. 7), an AGE (10 .. 99), a WORK (0 .. 7)" */
    private static void personWithin() {
        for (Scene s : new Scene[] {new Scene(), TWO}) {
            s.bounds("person(%, 20, 1)", 0, 7, -1);
            s.bounds("person(0, %, 1)", 10, 99, -1);
            s.bounds("person(0, 20, %)", 0, 7, -1);
        }
        new Scene().is("person(0, 10, 0)", 0);
        new Scene("person(0, 10, 0)").is("person(7, 99, 7)", 1);
        TWO.then("person(7, 99, 7)").is("alike(2, 7)", 1);
    }

    /** Promise 3: "PERSONS (24 at most)" and Promise 3: "A PERSON: its number. NONE: out of bounds, there are 24." */
    private static void personsFull() {
        for (int n = 0; n < 24; n++) {
            Scene.persons(n).is("person(7, 20, 1)", n);
        }
        Scene s = Scene.persons(24);
        s.refuses("person(7, 20, 1)", -1);
        s.is("count(1)", 24);
        s.each("line(%, 0, 0, 0, -1, -1)", 23, 0, -1);
        // a refused PERSON is not one of the 24
        DiaryHouse x = new DiaryHouse();
        for (int i = 0; i < 24; i++) {
            Due.is("person of PLACE 8", x.person(8, 20, 1), -1);
            Due.is("person " + i, x.person(0, 20, 1), i);
        }
    }

    /** Promise 3: "STRATUM of an AGE: 0 below 25, 1 below 45, 2 below 65, 3 else." */
    private static void agesOfStrata() {
        int[][] edges = {{10, 0}, {24, 0}, {25, 1}, {44, 1}, {45, 2}, {64, 2}, {65, 3}, {99, 3}};
        for (int[] one : edges) {
            Scene s = new Scene("person(0, " + one[0] + ", 0)", "line(0, 0, 0, 1, -1, -1)");
            for (int stratum = 0; stratum < 4; stratum++) {
                s.then("land(0, " + stratum + ", 1)").is("span(0, 0, 0, 2)", one[1] == stratum ? 1000 : 0);
            }
        }
        Scene s = new Scene();
        for (int[] one : edges) {
            s = s.then("person(0, " + one[0] + ", 0)");
        }
        s.each("alike(%, 2)", 0, 2, 2, 2, 2, 2, 2, 2, 2, -1);
    }

    /** Promise 4: "LINES (200 at most), numbered as told: of a PERSON for a DAY (0 .. NOW)" */
    private static void lineOfAPerson() {
        TWO.bounds("line(%, 0, 0, 0, -1, -1)", 0, 1, -1);
        new Scene().refuses("line(0, 0, 0, 0, -1, -1)", -1);
        TWO.then("line(1, 3, 0, 0, -1, -1)", "line(0, 0, 0, 0, -1, -1)").is("line(1, 1, 0, 0, -1, -1)", 2);
        TWO.then("line(1, 3, 0, 0, -1, -1)", "line(0, 0, 0, 0, -1, -1)").is("told(0, 0)", 1);
    }

    /** Promise 4: "for a DAY (0 .. NOW)" */
    private static void lineForADay() {
        Scene.persons(1).bounds("line(0, %, 0, 0, -1, -1)", 0, 0, -1);
        TWO.bounds("line(0, %, 0, 0, -1, -1)", 0, 3, -1);
        TWO.then("days(1)").is("line(0, 4, 0, 0, -1, -1)", 0);
        new Scene("days(400)", "days(400)", "days(200)", "person(0, 20, 1)")
                .bounds("line(0, %, 0, 0, -1, -1)", 0, 1000, -1);
    }

    /** Promise 4: "a SORT (0 .. 9), a MOOD (-9 .. 9), perhaps a SAYING (0 .. 29) that was HEARD from another
     * PERSON, or from none (its own)" */
    private static void lineWithin() {
        TWO.bounds("line(0, 0, %, 0, -1, -1)", 0, 9, -1);
        TWO.bounds("line(0, 0, 0, %, -1, -1)", -9, 9, -1);
        TWO.bounds("line(0, 0, 0, 0, %, -1)", -1, 29, -1);
        TWO.bounds("line(0, 0, 0, 0, %, 1)", 0, 29, -1);
        TWO.bounds("line(0, 0, 0, 0, 0, %)", -1, 1, -1);
        TWO.then("line(0, 0, 0, -9, 0, -1)").each("told(0, %)", 2, 0, -9, 0, -1);
        TWO.then("line(0, 0, 9, 9, 29, 1)").each("told(0, %)", 2, 9, 9, 29, 1);
    }

    /** Promise 4: "LINES (200 at most)" and Promise 4: "A LINE: its number. NONE: no such ones (SAYING NONE: none;
     * from NONE: its own), from itself, from one without a SAYING, out of bounds, the PERSON STOPPED by that DAY as
     * known NOW, there are 200." */
    private static void linesFull() {
        for (int n : new int[] {0, 1, 198, 199}) {
            TWO.times(n, "line(1, 0, 0, 0, -1, -1)").is("line(0, 0, 0, 0, -1, -1)", n);
        }
        Scene s = TWO.times(200, "line(1, 0, 0, 0, -1, -1)");
        s.refuses("line(0, 0, 0, 0, -1, -1)", -1);
        s.refuses("line(0, 3, 9, 9, 29, 1)", -1);
        s.is("count(2)", 200);
        s.each("told(%, 0)", 199, 1, Scene.THROWN);
        s.is("mark(0, 199, 0)", 1);
        s.is("mark(0, 200, 0)", 0);
        // a refused LINE is not one of the 200
        DiaryHouse x = new DiaryHouse();
        x.person(0, 20, 1);
        for (int i = 0; i < 200; i++) {
            Due.is("line of SORT 10", x.line(0, 0, 10, 0, -1, -1), -1);
            Due.is("line " + i, x.line(0, 0, 0, 0, -1, -1), i);
        }
    }

    /** Promise 4: "no such ones (SAYING NONE: none; from NONE: its own), from itself, from one without a SAYING" */
    private static void lineWithoutASaying() {
        TWO.then("line(0, 0, 0, 0, -1, -1)").each("told(0, %)", 4, -1, -1);
        TWO.then("line(0, 0, 0, 0, 0, -1)").each("told(0, %)", 4, 0, -1);
        TWO.then("line(0, 0, 0, 0, 0, 1)").each("told(0, %)", 4, 0, 1);
        TWO.refuses("line(0, 0, 0, 0, -1, 1)", -1);
        TWO.refuses("line(0, 0, 0, 0, -1, 0)", -1);
        TWO.refuses("line(0, 0, 0, 0, -1, -2)", -1);
        TWO.refuses("line(0, 0, 0, 0, -2, 1)", -1);
    }

    /** Promise 4: "from itself" */
    private static void lineFromItself() {
        TWO.refuses("line(0, 0, 0, 0, 0, 0)", -1);
        TWO.refuses("line(1, 0, 0, 0, 29, 1)", -1);
        TWO.is("line(0, 0, 0, 0, 0, 1)", 0);
        TWO.is("line(1, 0, 0, 0, 29, 0)", 0);
        // one that is told later is no such one
        Scene.persons(1).refuses("line(0, 0, 0, 0, 0, 1)", -1);
    }

    /** Promise 4: "no LINE for that DAY or a later one is taken then" */
    private static void lineOfOneThatStopped() {
        Scene s = TWO.then("stop(0, 2)");
        s.is("line(0, 1, 0, 0, -1, -1)", 0);
        s.refuses("line(0, 2, 0, 0, -1, -1)", -1);
        s.refuses("line(0, 3, 0, 0, -1, -1)", -1);
        s.is("line(1, 2, 0, 0, -1, -1)", 0);
        TWO.then("stop(0, 0)").refuses("line(0, 0, 0, 0, -1, -1)", -1);
        Scene ahead = TWO.then("stop(0, 4)");
        ahead.is("line(0, 3, 0, 0, -1, -1)", 0);
        ahead.then("days(1)").refuses("line(0, 4, 0, 0, -1, -1)", -1);
        Scene end = new Scene("days(400)", "days(400)", "days(200)", "person(0, 20, 1)", "stop(0, 1000)");
        end.is("line(0, 999, 0, 0, -1, -1)", 0);
        end.refuses("line(0, 1000, 0, 0, -1, -1)", -1);
        // what was told before stays
        TWO.then("line(0, 3, 0, 5, -1, -1)", "stop(0, 0)").is("mood(3, 3, 0)", 5);
    }

    /** Promise 4: "the PERSON STOPPED by that DAY as known NOW" */
    private static void stoppedAsKnownNow() {
        Scene s = TWO.then("stop(0, 2)", "days(1)", "stop(0, 4)");
        s.is("line(0, 3, 0, 0, -1, -1)", 0);
        s.refuses("line(0, 4, 0, 0, -1, -1)", -1);
        s = s.then("stop(0, 1)");
        s.is("line(0, 0, 0, 0, -1, -1)", 0);
        s.refuses("line(0, 1, 0, 0, -1, -1)", -1);
        s.then("stop(0, 5)").is("line(0, 4, 0, 0, -1, -1)", 0);
    }

    /** Promise 5: "Of a LINE: 0 PERSON, 1 DAY, 2 SORT, 3 MOOD, 4 SAYING (NONE), 5 from whom (NONE), 6 when it
     * was told." */
    private static void toldParts() {
        Scene s = TWO.then("line(1, 2, 9, -9, 29, 0)", "line(0, 0, 0, 9, -1, -1)");
        s.each("told(0, %)", -1, Scene.THROWN, 1, 2, 9, -9, 29, 0, 3, Scene.THROWN);
        s.each("told(1, %)", -1, Scene.THROWN, 0, 0, 0, 9, -1, -1, 3, Scene.THROWN);
    }

    /** Promise 5: "NoSuchElementException: no such LINE, what." */
    private static void toldNothing() {
        Scene s = TWO.then("line(1, 2, 9, -8, 29, 0)", "line(0, 0, 0, 9, -1, -1)");
        s.bounds("told(%, 0)", 0, 1, Scene.THROWN);
        s.bounds("told(0, %)", 0, 6, Scene.THROWN);
        new Scene().refuses("told(0, 0)", Scene.THROWN);
        TWO.times(200, "line(0, 0, 0, 0, -1, -1)").bounds("told(%, 6)", 0, 199, Scene.THROWN);
    }

    /** Promise 5: "All is told NOW" */
    private static void toldWhen() {
        Scene s = TWO.then("line(0, 0, 0, 0, -1, -1)", "days(0)", "line(0, 0, 0, 0, -1, -1)", "days(1)",
                "line(0, 0, 0, 0, -1, -1)");
        s.each("told(%, 6)", 0, 3, 3, 4, Scene.THROWN);
        new Scene("days(400)", "days(400)", "days(200)", "person(0, 20, 1)", "line(0, 0, 0, 0, -1, -1)")
                .is("told(0, 6)", 1000);
    }

    /** Promise 6: "A PERSON STOPS from a DAY (0 .. 1,000) on" and Promise 6: "A PERSON STOPS from a DAY." */
    private static void stopWithin() {
        TWO.bounds("stop(%, 2)", 0, 1, 0);
        TWO.bounds("stop(0, %)", 0, 1000, 0);
        TWO.then("line(0, 0, 0, 0, -1, -1)", "stop(1, 7)").bounds("stop(0, %)", 0, 1000, 0);
        new Scene().refuses("stop(0, 0)", 0);
        TWO.then("stop(0, 0)").is("stopped(0, 3)", 0);
        TWO.then("stop(0, 1000)").is("stopped(0, 3)", 1000);
    }

    /** Promise 6: "False: no such ones; there were 60." */
    private static void stopsFull() {
        TWO.times(59, "stop(1, #)").is("stop(0, 5)", 1);
        Scene s = TWO.times(60, "stop(1, #)");
        s.refuses("stop(0, 5)", 0);
        s.refuses("stop(1, 5)", 0);
        s.is("stopped(1, 3)", 59);
        s.is("line(0, 3, 0, 0, -1, -1)", 0);
        // those that were refused are none of the 60
        DiaryHouse x = new DiaryHouse();
        x.person(0, 20, 1);
        for (int i = 0; i < 60; i++) {
            Due.is("stop of no such one", x.stop(1, 0), false);
            Due.is("stop for no such DAY", x.stop(0, 1001), false);
            Due.is("stop " + i, x.stop(0, i), true);
        }
        Due.is("a 61st", x.stop(0, 7), false);
    }

    /** Promise 7: "From when a PERSON STOPPED as known in q." */
    private static void stoppedSince() {
        Scene s = TWO.then("stop(0, 1000)", "stop(1, 0)");
        s.each("stopped(%, 3)", -1, -1, 1000, 0, -1);
        s.each("stopped(1, %)", -1, -1, -1, -1, -1, 0, -1);
    }

    /** Promise 7: "(told again: as known in q the last told up to q)" and Promise 7: "as known in q (0 .. NOW):
     * by what was told on DAYS up to q" */
    private static void stoppedAsKnown() {
        Scene s = Scene.persons(2).then("stop(0, 7)", "days(2)", "stop(0, 4)", "stop(1, 1)", "stop(0, 9)",
                "days(1)", "stop(0, 3)");
        s.each("stopped(0, %)", -1, -1, 7, 7, 9, 3, -1);
        s.each("stopped(1, %)", -1, -1, -1, -1, 1, 1, -1);
        s.is("stopped(0, 2147483647)", -1);
        s.is("stopped(0, -2147483648)", -1);
    }

    /** Promise 7: "NONE: it goes on, no such ones." */
    private static void stoppedWithout() {
        Scene s = TWO.then("stop(1, 3)");
        s.is("stopped(0, 3)", -1);
        s.is("stopped(1, 3)", 3);
        s.bounds("stopped(%, 3)", 1, 1, -1);
        s.bounds("stopped(1, %)", 3, 3, -1);
        Scene.persons(1).then("stop(0, 5)").bounds("stopped(0, %)", 0, 0, -1);
    }
}
