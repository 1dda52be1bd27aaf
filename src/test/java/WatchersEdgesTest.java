/** The edges that the document names for promises 32 to 34: each at the edge and a step beyond it. */
public final class WatchersEdgesTest {
    public static void main(String[] args) {
        watcherWithin();
        watcherToAheadOfFrom();
        watchersFull();
        wantWithin();
        wantedFull();
        tableOfWanted();
        tableOfNone();
        inThatHour();
        hoursUnlike();
        twoApart();
        mostAreSeen();
        lowerWatcher();
        noneIsAboveAll();
        fullTable();
        Due.end();
    }

    private static void table(Scene s, int... watchers) {
        int seen = 0;
        for (int one = 0; one < watchers.length; one++) {
            s.is("table(" + one + ")", watchers[one]);
            seen += watchers[one] < 0 ? 0 : 1;
        }
        s.is("table(-1)", seen);
    }

    /** Promise 32: "WATCHERS (4 at most): from an hour to an hour (0 .. 23, both too)." */
    private static void watcherWithin() {
        for (Scene s : new Scene[] {new Scene(), new Scene("watcher(3, 9)", "want(0, 5)")}) {
            s.bounds("watcher(%, 23)", 0, 23, -1);
            s.bounds("watcher(0, %)", 0, 23, -1);
        }
        new Scene("watcher(3, 9)").is("watcher(0, 0)", 1);
        new Scene("watcher(3, 9)").is("watcher(23, 23)", 1);
    }

    /** Promise 32: "A WATCHER: its number. NONE: out of bounds, to ahead of from, there are four." */
    private static void watcherToAheadOfFrom() {
        Scene s = new Scene("watcher(3, 9)", "want(0, 5)");
        s.refuses("watcher(5, 4)", -1);
        s.is("watcher(5, 5)", 1);
        s.is("watcher(5, 6)", 1);
        s.refuses("watcher(23, 22)", -1);
        s.refuses("watcher(23, 0)", -1);
        s.refuses("watcher(1, 0)", -1);
    }

    /** Promise 32: "WATCHERS (4 at most)" and Promise 32: "there are four" */
    private static void watchersFull() {
        for (int n = 0; n < 4; n++) {
            new Scene().times(n, "watcher(0, 5)").is("watcher(0, 23)", n);
        }
        Scene s = new Scene("want(0, 9)").times(4, "watcher(0, 5)");
        s.refuses("watcher(0, 23)", -1);
        s.is("count(6)", 4);
        table(s, -1);
        // those that were refused are none of the four
        DiaryHouse x = new DiaryHouse();
        for (int i = 0; i < 4; i++) {
            Due.is("watcher(5, 4)", x.watcher(5, 4), -1);
            Due.is("watcher(0, 24)", x.watcher(0, 24), -1);
            Due.is("watcher(0, 23)", x.watcher(0, 23), i);
        }
    }

    /** Promise 33: "WANTED (8 at most): a PLACE, an hour." and Promise 33: "A WANTED one: its number. NONE: out of
     * bounds, there are eight." */
    private static void wantWithin() {
        for (Scene s : new Scene[] {new Scene(), new Scene("watcher(3, 9)", "want(0, 5)")}) {
            s.bounds("want(%, 7)", 0, 7, -1);
            s.bounds("want(3, %)", 0, 23, -1);
        }
    }

    /** Promise 33: "WANTED (8 at most)" and Promise 33: "there are eight" */
    private static void wantedFull() {
        for (int n = 0; n < 8; n++) {
            new Scene().times(n, "want(#, 5)").is("want(7, 23)", n);
        }
        Scene s = new Scene("watcher(9, 9)").times(8, "want(#, 5)");
        s.refuses("want(0, 9)", -1);
        s.is("count(7)", 8);
        s.is("table(-1)", 0);
        s.each("table(%)", 7, -1, -2);
        new Scene("watcher(9, 9)").times(7, "want(#, 5)").then("want(0, 9)").each("table(%)", 6, -1, 0, -2);
        DiaryHouse x = new DiaryHouse();
        for (int i = 0; i < 8; i++) {
            Due.is("want(8, 0)", x.want(8, 0), -1);
            Due.is("want(0, 0)", x.want(0, 0), i);
        }
    }

    /** Promise 34: "TABLE: the WATCHER of a WANTED one (NONE: none); of NONE how many are seen. -2: no such one." */
    private static void tableOfWanted() {
        new Scene().each("table(%)", -3, -2, -2, 0, -2);
        Scene one = new Scene("watcher(3, 9)", "want(0, 5)");
        one.each("table(%)", -3, -2, -2, 1, 0, -2);
        one.bounds("table(%)", -1, 0, -2);
        new Scene("want(0, 5)").bounds("table(%)", -1, 0, -2);
        new Scene("watcher(3, 9)").bounds("table(%)", -1, -1, -2);
        new Scene("watcher(3, 9)").times(8, "want(#, #)").bounds("table(%)", -1, 7, -2);
    }

    /** Promise 34: "of NONE how many are seen" */
    private static void tableOfNone() {
        new Scene("want(0, 5)").each("table(%)", -1, 0, -1);
        new Scene("watcher(0, 23)").is("table(-1)", 0);
        new Scene("want(0, 5)", "watcher(0, 4)").each("table(%)", -1, 0, -1);
        new Scene("want(0, 5)", "watcher(0, 5)").each("table(%)", -1, 1, 0);
        // it is as of now, whichever came last
        new Scene("watcher(0, 5)", "want(0, 5)").each("table(%)", -1, 1, 0);
        new Scene("watcher(0, 5)", "want(0, 5)", "want(0, 4)").each("table(%)", -1, 2, 0, 0);
    }

    /** Promise 34: "a WATCHER who is there in that hour, or none" and Promise 34: "(0 .. 23, both too)" */
    private static void inThatHour() {
        Scene s = new Scene("watcher(5, 9)");
        int[] hours = {0, 4, 5, 6, 8, 9, 10, 23};
        for (int hour : hours) {
            table(s.then("want(0, " + hour + ")"), hour >= 5 && hour <= 9 ? 0 : -1);
        }
        table(new Scene("watcher(0, 0)", "want(0, 0)", "want(0, 1)"), 0, -1);
        table(new Scene("watcher(23, 23)", "want(0, 23)", "want(0, 22)"), 0, -1);
        table(new Scene("watcher(0, 23)", "want(0, 23)", "want(0, 0)"), 0, 0);
    }

    /** Promise 34: "One WATCHER may see two WANTED ones if their hours are unlike" */
    private static void hoursUnlike() {
        Scene s = new Scene("watcher(0, 23)", "want(3, 5)");
        table(s.then("want(3, 5)"), 0, -1);
        table(s.then("want(3, 6)"), 0, 0);
        table(s.then("want(3, 4)"), 0, 0);
        table(s.then("want(4, 5)"), 0, -1);
        table(s.then("want(3, 5)", "watcher(0, 23)"), 0, 1);
        table(s.then("want(3, 4)", "want(3, 6)", "want(3, 7)"), 0, 0, 0, 0);
    }

    /** Promise 34: "and two apart or more where the PLACES are unlike" */
    private static void twoApart() {
        Scene s = new Scene("watcher(0, 23)", "want(3, 5)");
        table(s.then("want(4, 6)"), 0, -1);
        table(s.then("want(4, 4)"), 0, -1);
        table(s.then("want(4, 7)"), 0, 0);
        table(s.then("want(4, 3)"), 0, 0);
        table(s.then("want(4, 8)"), 0, 0);
        table(s.then("want(4, 6)", "watcher(6, 6)"), 0, 1);
        // not only those that follow one another
        table(s.then("want(3, 7)", "want(4, 9)", "want(5, 6)"), 0, 0, 0, -1);
        table(s.then("want(3, 9)", "want(4, 7)", "want(4, 6)"), 0, 0, 0, -1);
    }

    /** Promise 34: "TABLE: to each WANTED a WATCHER who is there in that hour, or none: so that most are seen" */
    private static void mostAreSeen() {
        table(new Scene("watcher(8, 12)", "want(0, 10)", "want(1, 9)"), 0, -1);
        table(new Scene("watcher(8, 12)", "want(0, 10)", "want(1, 9)", "want(1, 11)"), -1, 0, 0);
        table(new Scene("watcher(8, 12)", "want(0, 10)", "want(1, 9)", "want(1, 11)", "watcher(10, 10)"), 1, 0, 0);
        table(new Scene("watcher(8, 12)", "watcher(9, 10)", "want(0, 10)", "want(1, 11)"), 1, 0);
        table(new Scene("watcher(8, 12)", "watcher(9, 10)", "want(0, 10)", "want(1, 12)"), 0, 0);
    }

    /** Promise 34: "of several the one with the lower WATCHER (none is above all) where the first WANTED differs" */
    private static void lowerWatcher() {
        Scene s = new Scene("watcher(0, 23)", "watcher(0, 23)");
        table(s.then("want(0, 5)"), 0);
        table(s.then("want(0, 5)", "want(0, 5)"), 0, 1);
        table(s.then("want(0, 5)", "want(1, 5)", "want(2, 5)"), 0, 1, -1);
        table(s.then("want(0, 5)", "want(1, 5)", "want(2, 7)"), 0, 1, 0);
        // the first one goes to WATCHER 0, though the second can't then
        table(new Scene("watcher(5, 5)", "watcher(0, 23)", "want(0, 5)", "want(1, 5)"), 0, 1);
        table(new Scene("watcher(0, 4)", "watcher(0, 5)", "want(0, 5)", "want(1, 4)"), 1, 0);
        table(new Scene("watcher(0, 4)", "watcher(0, 5)", "want(0, 4)", "want(1, 5)"), 0, 1);
    }

    /** Promise 34: "(none is above all)" */
    private static void noneIsAboveAll() {
        for (int watchers = 1; watchers <= 4; watchers++) {
            int[] wants = {0, watchers > 1 ? 1 : -1, watchers > 2 ? 2 : -1, watchers > 3 ? 3 : -1, -1};
            table(new Scene().times(watchers, "watcher(0, 23)").times(5, "want(#, 5)"), wants);
        }
        // only the last WATCHER can see the first one: yet it is seen, and the second is not
        table(new Scene("watcher(0, 1)", "watcher(0, 1)", "watcher(0, 1)", "watcher(5, 5)", "want(0, 5)",
                "want(1, 5)"), 3, -1);
    }

    /** Promise 34: "WATCHERS (4 at most)" and Promise 34: "WANTED (8 at most)" (all of them) */
    private static void fullTable() {
        Scene four = new Scene().times(4, "watcher(0, 23)");
        table(four.times(8, "want(#, 5)"), 0, 1, 2, 3, -1, -1, -1, -1);
        table(four.times(8, "want(3, #)"), 0, 0, 0, 0, 0, 0, 0, 0);
        table(four.times(8, "want(#, #)"), 0, 1, 0, 1, 0, 1, 0, 1);
        table(four.times(4, "want(#, 5)").times(4, "want(#, 6)"), 0, 1, 2, 3, 0, 1, 2, 3);
        table(four.times(4, "want(#, 5)").then("want(1, 6)", "want(0, 6)", "want(4, 6)", "want(3, 6)"),
                0, 1, 2, 3, 1, 0, -1, 3);
        // a refused fifth WATCHER and ninth WANTED one leave it
        Scene full = four.times(8, "want(#, #)");
        full.refuses("watcher(0, 23)", -1);
        full.refuses("want(0, 23)", -1);
    }
}
