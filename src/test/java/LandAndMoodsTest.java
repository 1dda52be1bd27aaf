/** Promises 26 to 31. */
public final class LandAndMoodsTest {
    private static final int HIDDEN = -1000000;

    public static void main(String[] args) {
        land();
        span();
        spanStrata();
        spanWrong();
        mood();
        turn();
        turnOfAlikeDistances();
        turnChance();
        turnWrong();
        turnOfMany();
        last();
        lean();
        Due.end();
    }

    private static void land() {
        DiaryHouse x = new DiaryHouse();
        int[][] wrong = {{-1, 0, 1}, {8, 0, 1}, {0, -1, 1}, {0, 4, 1}, {0, 0, -1}, {0, 0, 10000}};
        for (int[] a : wrong) {
            Due.is("land " + java.util.Arrays.toString(a), x.land(a[0], a[1], a[2]), false);
        }
        Due.is("people", x.count(11), 0);
        Due.is("land(7, 3, 9999)", x.land(7, 3, 9999), true);
        Due.is("land(0, 0, 1)", x.land(0, 0, 1), true);
        Due.is("people", x.count(11), 10000);
        Due.is("land(7, 3, 0)", x.land(7, 3, 0), true);
        Due.is("people", x.count(11), 1);
        for (int place = 0; place < 8; place++) {
            for (int stratum = 0; stratum < 4; stratum++) {
                x.land(place, stratum, 9999);
            }
        }
        Due.is("people", x.count(11), 319968);
        spanIs(x, 0, 0, 0, -900, 900, 0);
    }

    private static void span() {
        DiaryHouse x = new DiaryHouse();
        x.person(0, 20, 1);
        x.person(0, 24, 1);
        x.person(1, 70, 1);
        x.days(2);
        x.line(0, 1, 3, 5, -1, -1);
        x.line(1, 1, 3, -6, -1, -1);
        x.line(1, 1, 3, -1, -1, -1);
        x.line(1, 1, 4, 9, -1, -1);
        x.line(1, 2, 3, 9, -1, -1);
        x.line(2, 1, 3, 2, -1, -1);
        spanIs(x, 3, 1, 2, HIDDEN, HIDDEN, HIDDEN);
        x.land(0, 0, 7);
        spanIs(x, 3, 1, 2, -66, -66, 1000);
        x.land(1, 0, 2);
        spanIs(x, 3, 1, 2, -251, 148, 777);
        x.land(1, 3, 3);
        spanIs(x, 3, 1, 2, -138, 161, 833);
        x.days(1);
        x.line(0, 1, 3, 9, -1, -1);
        spanIs(x, 3, 1, 3, 2, 302, 833);
        spanIs(x, 3, 1, 2, -138, 161, 833);
        spanIs(x, 3, 1, 1, -900, 900, 0);
        spanIs(x, 4, 1, 3, 150, 900, 583);
        spanIs(x, 3, 1000, 3, -900, 900, 0);
    }

    private static void spanStrata() {
        int[] ages = {10, 24, 25, 44, 45, 64, 65, 99};
        for (int i = 0; i < ages.length; i++) {
            DiaryHouse x = new DiaryHouse();
            x.person(5, ages[i], 1);
            x.line(0, 0, 0, 1, -1, -1);
            for (int stratum = 0; stratum < 4; stratum++) {
                x.land(5, stratum, 1 << stratum * 2);
            }
            Due.is("SURE OF at AGE " + ages[i], x.span(0, 0, 0, 2), (1 << i / 2 * 2) * 1000 / 85);
        }
    }

    private static void spanWrong() {
        DiaryHouse x = new DiaryHouse();
        x.land(0, 0, 5);
        int[][] wrong = {{-1, 0, 0, 0}, {10, 0, 0, 0}, {0, -1, 0, 0}, {0, 1001, 0, 0}, {0, 0, -1, 0},
            {0, 0, 1, 0}, {0, 0, 0, -1}, {0, 0, 0, 3}};
        for (int[] a : wrong) {
            Due.is("span " + java.util.Arrays.toString(a), x.span(a[0], a[1], a[2], a[3]), HIDDEN);
        }
    }

    private static void mood() {
        DiaryHouse x = new DiaryHouse();
        x.person(0, 20, 1);
        x.days(3);
        x.line(0, 1, 3, 5, -1, -1);
        x.line(0, 1, 4, -9, -1, -1);
        x.line(0, 2, 4, 2, -1, -1);
        x.days(1);
        x.line(0, 1, 4, 1, -1, -1);
        moodIs(x, 1, 4, -3, 3);
        moodIs(x, 1, 3, -4, 2);
        moodIs(x, 1, 2, 0, 0);
        moodIs(x, 2, 4, 2, 1);
        moodIs(x, 1000, 4, 0, 0);
        moodIs(x, 1001, 4, HIDDEN, HIDDEN);
        moodIs(x, -1, 4, HIDDEN, HIDDEN);
        moodIs(x, 1, 5, HIDDEN, HIDDEN);
        moodIs(x, 1, -1, HIDDEN, HIDDEN);
        Due.is("mood, what 2", x.mood(1, 4, 2), HIDDEN);
        Due.is("mood, what -1", x.mood(1, 4, -1), HIDDEN);
    }

    private static void turn() {
        DiaryHouse x = moods(9, new int[][] {{2, 1}, {2, 2}, {5, 9}, {5, 8}, {7, 9}});
        turnIs(x, 0, 9, 9, 3, 1);
        turnIs(x, 2, 5, 9, 3, 2);
        turnIs(x, 3, 9, 9, 6, 3);
        turnIs(x, 5, 7, 9, 6, 3);
        turnIs(x, 3, 6, 9, -1, -1);
        turnIs(x, 8, 1000, 9, -1, -1);
        // LINES that were told later
        x.days(1);
        x.stop(0, 1000);
        x.line(0, 5, 0, -9, -1, -1);
        x.line(0, 6, 0, -9, -1, -1);
        turnIs(x, 0, 9, 9, 3, 1);
        turnIs(x, 0, 9, 10, 7, 4);
    }

    private static void turnOfAlikeDistances() {
        // both splits have a distance of 3
        turnIs(moods(9, new int[][] {{1, 0}, {4, 2}, {8, 4}}), 0, 9, 9, 2, 2);
        // told out of the order of DAYS
        turnIs(moods(9, new int[][] {{8, 9}, {1, -1}, {3, 0}}), 0, 9, 9, 4, 1);
        // all alike: the least DAY, every way round
        turnIs(moods(9, new int[][] {{3, 4}, {5, 4}, {6, 4}}), 0, 9, 9, 4, 3);
        // distances of 1/4 and of 1/3 are told apart
        turnIs(moods(9, new int[][] {{1, 0}, {2, 0}, {3, 1}, {3, 0}, {4, 0}}), 0, 9, 9, 3, 5);
    }

    private static void turnChance() {
        // 2 alone behind the others: 1 and 9 alone are as far from theirs, 5 and 4 are not
        turnIs(moods(9, new int[][] {{1, 5}, {1, 1}, {2, 9}, {2, 4}, {3, 2}}), 0, 9, 9, 3, 3);
        // LINES of one DAY go by their numbers: 5, 1 | 9, 4 and 9, 4 | 5, 1, but neither 1, 9 nor 4, 5
        turnIs(moods(9, new int[][] {{1, 5}, {2, 9}, {1, 1}, {2, 4}}), 0, 9, 9, 2, 2);
        turnIs(moods(9, new int[][] {{1, 1}, {2, 9}, {1, 5}, {2, 4}}), 0, 9, 9, 2, 4);
        // 0, 5 and 5, 1 and 0, 0 are far from the others; told 5, 0 it is 5, 0 and 0, 5
        turnIs(moods(9, new int[][] {{1, 0}, {1, 5}, {2, 1}, {2, 1}, {3, 0}}), 0, 9, 9, 2, 3);
        turnIs(moods(9, new int[][] {{1, 5}, {1, 0}, {2, 1}, {2, 1}, {3, 0}}), 0, 9, 9, 2, 2);
        turnIs(moods(9, new int[][] {{1, 5}, {1, 5}, {2, -5}, {2, -5}}), 0, 9, 9, 2, 2);
        turnIs(moods(9, new int[][] {{1, -5}, {2, 5}, {3, -5}, {4, 5}}), 0, 9, 9, 2, 4);
        turnIs(moods(9, new int[][] {{1, 9}, {2, -9}, {3, -9}, {4, -9}}), 0, 9, 9, 2, 1);
    }

    private static void turnWrong() {
        DiaryHouse x = moods(9, new int[][] {{0, 1}, {5, 9}});
        turnIs(x, 0, 1000, 9, 1, 2);
        int[][] wrong = {{-1, 5, 9, 0}, {0, 1001, 9, 0}, {5, 5, 9, 0}, {5, 0, 9, 0}, {0, 5, 10, 0},
            {0, 5, -1, 0}, {0, 5, 9, -1}, {0, 5, 9, 2}};
        for (int[] a : wrong) {
            Due.is("turn " + java.util.Arrays.toString(a), x.turn(a[0], a[1], a[2], a[3]), -1);
        }
    }

    private static void turnOfMany() {
        int[][] lines = new int[200][];
        for (int i = 0; i < 200; i++) {
            int day = (199 - i) * 2;
            lines[i] = new int[] {day, day < 300 ? -9 : 9};
        }
        turnIs(moods(400, lines), 0, 1000, 400, 299, 1);
    }

    private static void last() {
        DiaryHouse x = moods(9, new int[][] {{3, 1}, {5, 2}, {5, 3}, {4, 4}});
        x.person(0, 20, 1);
        x.days(1);
        x.line(0, 9, 0, 0, -1, -1);
        x.line(0, 5, 0, 0, -1, -1);
        Due.is("last(0, 8)", x.last(0, 8), -1);
        Due.is("last(0, 9)", x.last(0, 9), 2);
        Due.is("last(0, 10)", x.last(0, 10), 4);
        Due.is("last(1, 10)", x.last(1, 10), -1);
        x.line(1, 3, 0, 0, -1, -1);
        Due.is("last(1, 10) once it wrote", x.last(1, 10), 6);
        Due.is("last of the very first LINE", moods(3, new int[][] {{2, 0}, {1, 0}}).last(0, 3), 0);
        Due.is("last(2, 10)", x.last(2, 10), -1);
        Due.is("last(-1, 10)", x.last(-1, 10), -1);
        Due.is("last(0, 11)", x.last(0, 11), -1);
        Due.is("last(0, -1)", x.last(0, -1), -1);
    }

    private static void lean() {
        DiaryHouse x = new DiaryHouse();
        for (int i = 0; i < 8; i++) {
            x.person(0, 20, 1);
        }
        int[] sorts = {1, 1, 2, 1, 2, 3, 1};
        for (int person = 0; person < 7; person++) {
            x.line(person, 0, 9, 0, -1, -1);
            x.line(person, 0, sorts[person], 0, -1, -1);
        }
        x.stop(7, 0);
        Due.is("lean without one that STOPPED", x.lean(1, 0), HIDDEN);
        x.stop(0, 0);
        x.stop(1, 2);
        x.stop(2, 1);
        Due.is("lean(1, 0)", x.lean(1, 0), 1000 - 500);
        x.days(1);
        Due.is("lean(1, 1)", x.lean(1, 1), 500 - 600);
        allOthersOfOneSort();
        Due.is("lean(2, 1)", x.lean(2, 1), 500 - 200);
        Due.is("lean(3, 1)", x.lean(3, 1), -200);
        Due.is("lean(9, 1)", x.lean(9, 1), 0);
        x.days(1);
        Due.is("lean(1, 2)", x.lean(1, 2), 666 - 500);
        Due.is("lean(2, 2)", x.lean(2, 2), 333 - 250);
        Due.is("lean(2, 1) still", x.lean(2, 1), 300);
        for (int person = 0; person < 7; person++) {
            x.stop(person, 2);
        }
        Due.is("lean without another", x.lean(1, 2), HIDDEN);
        Due.is("lean(-1, 1)", x.lean(-1, 1), HIDDEN);
        Due.is("lean(10, 1)", x.lean(10, 1), HIDDEN);
        Due.is("lean(1, 3)", x.lean(1, 3), HIDDEN);
        Due.is("lean(1, -1)", x.lean(1, -1), HIDDEN);
    }

    private static void allOthersOfOneSort() {
        DiaryHouse x = moods(0, new int[][] {{0, 0}});
        x.person(0, 20, 1);
        x.line(1, 0, 5, 0, -1, -1);
        x.stop(0, 0);
        Due.is("all others of the SORT", x.lean(5, 0), -1000);
        Due.is("all that STOPPED of the SORT", x.lean(0, 0), 1000);
    }

    /** A house on a DAY with one PERSON whose LINES are told as {DAY, MOOD}. */
    private static DiaryHouse moods(int now, int[][] lines) {
        DiaryHouse x = new DiaryHouse();
        x.person(0, 20, 1);
        x.days(now);
        for (int[] l : lines) {
            x.line(0, l[0], 0, l[1], -1, -1);
        }
        return x;
    }

    private static void spanIs(DiaryHouse x, int sort, int day, int q, int least, int greatest, int sure) {
        String call = "span(" + sort + ", " + day + ", " + q + ", ";
        Due.is(call + "0)", x.span(sort, day, q, 0), least);
        Due.is(call + "1)", x.span(sort, day, q, 1), greatest);
        Due.is(call + "2)", x.span(sort, day, q, 2), sure);
    }

    private static void moodIs(DiaryHouse x, int day, int q, int sum, int lines) {
        String call = "mood(" + day + ", " + q + ", ";
        Due.is(call + "0)", x.mood(day, q, 0), sum);
        Due.is(call + "1)", x.mood(day, q, 1), lines);
    }

    private static void turnIs(DiaryHouse x, int from, int to, int q, int day, int chance) {
        String call = "turn(" + from + ", " + to + ", " + q + ", ";
        Due.is(call + "0)", x.turn(from, to, q, 0), day);
        Due.is(call + "1)", x.turn(from, to, q, 1), chance);
    }
}
