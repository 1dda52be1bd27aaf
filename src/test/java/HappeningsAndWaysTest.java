/** Promises 17 to 20. */
public final class HappeningsAndWaysTest {
    public static void main(String[] args) {
        happen();
        truth();
        wordsOfAWay();
        waysEnd();
        roundWays();
        wrongWays();
        bearers();
        Due.end();
    }

    private static void happen() {
        DiaryHouse x = new DiaryHouse();
        Due.is("happen(-1, 0, 0)", x.happen(-1, 0, 0, true), false);
        Due.is("happen(8, 0, 0)", x.happen(8, 0, 0, true), false);
        Due.is("happen(0, -1, 0)", x.happen(0, -1, 0, true), false);
        Due.is("happen(0, 1001, 0)", x.happen(0, 1001, 0, true), false);
        Due.is("happen(0, 0, -1)", x.happen(0, 0, -1, true), false);
        Due.is("happen(0, 0, 10)", x.happen(0, 0, 10, false), false);
        Due.is("HAPPENINGS", x.count(4), 0);
        Due.is("happen(7, 1000, 9)", x.happen(7, 1000, 9, false), true);
        for (int i = 1; i < 100; i++) {
            Due.is("happen " + i, x.happen(0, 0, 0, true), true);
        }
        Due.is("a 101st", x.happen(0, 0, 0, false), false);
        Due.is("HAPPENINGS", x.count(4), 100);
        x.person(0, 20, 1);
        x.line(0, 0, 0, 0, -1, -1);
        Due.is("truth once it was refused", x.truth(0, 0), 1);
    }

    private static void truth() {
        DiaryHouse x = new DiaryHouse();
        x.person(2, 20, 1);
        x.days(2);
        x.line(0, 1, 5, 0, -1, -1);
        x.happen(2, 1, 4, true);
        x.happen(2, 2, 5, true);
        x.happen(3, 1, 5, true);
        Due.is("MAY be", x.truth(0, 2), 2);
        x.days(1);
        x.happen(2, 1, 5, true);
        x.days(1);
        x.happen(2, 1, 5, false);
        x.days(1);
        x.happen(2, 1, 5, false);
        x.happen(2, 1, 5, true);
        x.line(0, 1, 4, 0, -1, -1);
        Due.is("truth by the first HAPPENING told", x.truth(1, 5), 1);
        Due.is("truth as known in 2", x.truth(0, 2), 2);
        Due.is("truth as known in 3", x.truth(0, 3), 1);
        Due.is("truth as known in 4", x.truth(0, 4), 0);
        Due.is("truth as known in 5", x.truth(0, 5), 1);
        Due.is("told behind q", x.truth(0, 1), -1);
        Due.is("q behind NOW", x.truth(0, 6), -1);
        Due.is("q below 0", x.truth(0, -1), -1);
        Due.is("no such LINE", x.truth(2, 5), -1);
        Due.is("no such LINE", x.truth(-1, 5), -1);
    }

    private static void wordsOfAWay() {
        DiaryHouse x = persons(3);
        x.days(9);
        x.line(0, 5, 0, 0, 3, 1);
        x.line(1, 4, 0, 0, 3, -1);
        wayIs(x, 0, 3, 9, 1, 0, 1);
        x.line(0, 5, 0, 0, 3, -1);
        wayIs(x, 0, 3, 9, 1, 0, 1);
        x.days(1);
        x.line(0, 4, 0, 0, 3, 2);
        wayIs(x, 0, 3, 10, 0, 1, 0);
        wayIs(x, 0, 3, 9, 1, 0, 1);
        x.days(1);
        x.line(2, 4, 0, 0, 3, -1);
        wayIs(x, 0, 3, 11, 2, 0, 1);
        wayIs(x, 0, 3, 10, 0, 1, 0);
        wayIs(x, 2, 3, 11, 2, 0, 0);
        wayIs(x, 2, 3, 10, -1, -1, -1);
        wayIs(x, 0, 4, 11, -1, -1, -1);
    }

    private static void waysEnd() {
        DiaryHouse x = persons(4);
        x.days(9);
        x.line(0, 5, 0, 0, 0, 1);
        x.line(1, 5, 0, 0, 0, 2);
        x.line(2, 5, 0, 0, 0, 3);
        wayIs(x, 0, 0, 9, 2, 1, 2);
        x.line(3, 6, 0, 0, 0, -1);
        wayIs(x, 0, 0, 9, 2, 1, 2);
        wayIs(x, 2, 0, 9, 2, 1, 0);
        x.line(3, 5, 0, 0, 0, -1);
        wayIs(x, 0, 0, 9, 3, 0, 3);
        x.line(3, 9, 0, 0, 29, 0);
        x.line(0, 8, 0, 0, 29, 1);
        x.line(1, 7, 0, 0, 29, -1);
        wayIs(x, 3, 29, 9, 1, 0, 2);
    }

    private static void roundWays() {
        DiaryHouse x = persons(24);
        x.days(9);
        for (int i = 0; i < 24; i++) {
            x.line(i, 4, 0, 0, 1, (i + 1) % 24);
        }
        wayIs(x, 5, 1, 9, 5, 2, 24);
        // a way into a round that the one asked is not in
        x.line(0, 4, 0, 0, 2, 1);
        x.line(1, 4, 0, 0, 2, 2);
        x.line(2, 4, 0, 0, 2, 3);
        x.line(3, 4, 0, 0, 2, 1);
        wayIs(x, 0, 2, 9, 1, 2, 4);
        wayIs(x, 3, 2, 9, 3, 2, 3);
        // the one that would come again has its WORD for a later DAY alone
        x.line(0, 6, 0, 0, 3, 1);
        x.line(1, 5, 0, 0, 3, 0);
        wayIs(x, 0, 3, 9, 1, 1, 1);
        wayIs(x, 1, 3, 9, 1, 1, 0);
        // all 24 in a row
        for (int i = 0; i < 23; i++) {
            x.line(i, 4, 0, 0, 5, i + 1);
        }
        wayIs(x, 0, 5, 9, 22, 1, 22);
        x.line(23, 4, 0, 0, 5, -1);
        wayIs(x, 0, 5, 9, 23, 0, 23);
    }

    private static void wrongWays() {
        DiaryHouse x = persons(1);
        x.line(0, 0, 0, 0, 3, -1);
        int[][] wrong = {{1, 3, 0, 0}, {-1, 3, 0, 0}, {0, -1, 0, 0}, {0, 30, 0, 0}, {0, 3, -1, 0},
            {0, 3, 1, 0}, {0, 3, 0, -1}, {0, 3, 0, 3}};
        for (int[] a : wrong) {
            Due.is("way " + java.util.Arrays.toString(a), x.way(a[0], a[1], a[2], a[3]), -1);
        }
        x.line(0, 0, 0, 0, -1, -1);
        Due.is("way of no SAYING", x.way(0, -1, 0, 0), -1);
    }

    private static void bearers() {
        DiaryHouse x = persons(4);
        x.line(0, 0, 0, 0, 7, 1);
        x.line(0, 0, 0, 0, 7, -1);
        x.line(2, 0, 0, 0, 8, -1);
        x.line(2, 0, 0, 0, -1, -1);
        x.days(1);
        x.line(3, 0, 0, 0, 7, -1);
        Due.is("bearers(7, 0)", x.bearers(7, 0), 1);
        Due.is("bearers(7, 1)", x.bearers(7, 1), 2);
        Due.is("bearers(8, 1)", x.bearers(8, 1), 1);
        Due.is("bearers(29, 1)", x.bearers(29, 1), 0);
        Due.is("bearers(30, 1)", x.bearers(30, 1), -1);
        Due.is("bearers(-1, 1)", x.bearers(-1, 1), -1);
        Due.is("bearers(7, 2)", x.bearers(7, 2), -1);
        Due.is("bearers(7, -1)", x.bearers(7, -1), -1);
    }

    private static DiaryHouse persons(int n) {
        DiaryHouse x = new DiaryHouse();
        for (int i = 0; i < n; i++) {
            x.person(0, 20, 1);
        }
        return x;
    }

    private static void wayIs(DiaryHouse x, int person, int saying, int q, int end, int how, int steps) {
        String call = "way(" + person + ", " + saying + ", " + q + ", ";
        Due.is(call + "0)", x.way(person, saying, q, 0), end);
        Due.is(call + "1)", x.way(person, saying, q, 1), how);
        Due.is(call + "2)", x.way(person, saying, q, 2), steps);
    }
}
