/** Promises 35 to 42. */
public final class KnownAndBoughtTest {
    private static final int HIDDEN = -1000000;

    public static void main(String[] args) {
        alike();
        hide();
        question();
        buy();
        buyTies();
        judge();
        lot();
        lotOfAll();
        beside();
        count();
        Due.end();
    }

    private static void alike() {
        DiaryHouse x = new DiaryHouse();
        // {PLACE, AGE, WORK}: 24 and 25 are of unlike STRATA, 25 and 44 of one
        int[][] persons = {{0, 24, 1}, {0, 25, 1}, {0, 44, 2}, {1, 25, 1}, {0, 10, 1}};
        for (int[] p : persons) {
            x.person(p[0], p[1], p[2]);
        }
        int[] want = {5, 4, 2, 2, 4, 3, 2, 2};
        for (int by = 0; by < 8; by++) {
            Due.is("alike(0, " + by + ")", x.alike(0, by), want[by]);
        }
        Due.is("alike(1, 2)", x.alike(1, 2), 3);
        Due.is("alike(1, 3)", x.alike(1, 3), 2);
        Due.is("alike(2, 4)", x.alike(2, 4), 1);
        Due.is("alike(0, -1)", x.alike(0, -1), -1);
        Due.is("alike(0, 8)", x.alike(0, 8), -1);
        Due.is("alike(5, 0)", x.alike(5, 0), -1);
        Due.is("alike(-1, 0)", x.alike(-1, 0), -1);
    }

    private static void hideIs(int m, int want, int[][] persons) {
        DiaryHouse x = new DiaryHouse();
        for (int[] p : persons) {
            x.person(p[0], p[1], p[2]);
        }
        Due.is("hide(" + m + ") of " + java.util.Arrays.deepToString(persons), x.hide(m), want);
    }

    private static void hide() {
        hideIs(0, -1, new int[][] {});
        hideIs(-5, -1, new int[][] {{0, 20, 0}});
        hideIs(1, 0, new int[][] {});
        hideIs(Integer.MAX_VALUE, 0, new int[][] {});
        hideIs(1, 0, new int[][] {{0, 20, 0}, {1, 30, 1}});
        hideIs(2, 0, new int[][] {{0, 20, 0}, {0, 24, 0}});
        hideIs(3, -1, new int[][] {{0, 20, 0}, {0, 24, 0}});
        hideIs(2, 1, new int[][] {{0, 20, 0}, {1, 24, 0}});
        hideIs(2, 2, new int[][] {{0, 20, 0}, {0, 30, 0}});
        hideIs(2, 4, new int[][] {{0, 20, 0}, {0, 20, 1}});
        hideIs(2, 3, new int[][] {{0, 20, 0}, {1, 30, 0}});
        hideIs(2, 5, new int[][] {{0, 20, 0}, {1, 20, 1}});
        hideIs(2, 6, new int[][] {{0, 20, 0}, {0, 30, 1}});
        hideIs(2, 7, new int[][] {{0, 20, 0}, {1, 30, 1}});
        hideIs(2, 1, new int[][] {{0, 20, 0}, {1, 20, 0}, {0, 30, 0}, {1, 30, 0}});
        // WORK alone is fewer than PLACE and STRATUM, though its bit is the greatest
        hideIs(2, 4, new int[][] {{0, 20, 0}, {0, 20, 1}, {1, 30, 0}, {1, 30, 1}});
        hideIs(2, 1, new int[][] {{7, 20, 0}, {0, 20, 0}, {0, 20, 0}});
        hideIs(2, 1, new int[][] {{0, 20, 0}, {0, 20, 0}, {7, 20, 0}});
        hideIs(4, 6, new int[][] {{0, 20, 0}, {0, 30, 1}, {0, 30, 2}, {0, 70, 3}});
    }

    private static void question() {
        DiaryHouse x = new DiaryHouse();
        int[][] wrong = {{0, 1}, {51, 1}, {1, -1}, {1, 1024}, {-1, 1}};
        for (int[] a : wrong) {
            Due.is("question " + java.util.Arrays.toString(a), x.question(a[0], a[1]), -1);
        }
        Due.is("QUESTIONS", x.count(8), 0);
        Due.is("question(1, 0)", x.question(1, 0), 0);
        Due.is("question(50, 1023)", x.question(50, 1023), 1);
        for (int i = 2; i < 8; i++) {
            Due.is("question " + i, x.question(9, 9), i);
        }
        Due.is("a ninth", x.question(9, 9), -1);
        Due.is("QUESTIONS", x.count(8), 8);
    }

    private static DiaryHouse questions(int[][] questions) {
        DiaryHouse x = new DiaryHouse();
        for (int[] q : questions) {
            x.question(q[0], q[1]);
        }
        return x;
    }

    private static void buy() {
        DiaryHouse x = questions(new int[][] {{20, 0b111}, {5, 0b1}, {6, 0b110}, {50, 0b1111111000}});
        int[] coins = {0, 4, 5, 6, 10, 11, 49, 50, 54, 55, 56, 60, 61, 70, 400};
        int[] want = {0, 0, 2, 4, 4, 6, 6, 8, 8, 10, 12, 12, 14, 14, 14};
        for (int i = 0; i < coins.length; i++) {
            Due.is("buy(" + coins[i] + ")", x.buy(coins[i]), want[i]);
        }
        Due.is("buy(-1)", x.buy(-1), -1);
        Due.is("buy(401)", x.buy(401), -1);
        Due.is("buy(400) of none", new DiaryHouse().buy(400), 0);
    }

    private static void buyTies() {
        Due.is("the lower of two alike", questions(new int[][] {{5, 1}, {5, 2}}).buy(5), 1);
        Due.is("the cheaper of two", questions(new int[][] {{6, 1}, {5, 2}}).buy(6), 2);
        Due.is("the fuller of two", questions(new int[][] {{1, 1}, {9, 6}}).buy(9), 2);
        // 0 with 3 is as good as 1 with 2: the one with 0, though its bits are the greater
        int[][] four = {{3, 0b0001}, {4, 0b0011}, {2, 0b1100}, {3, 0b1110}};
        Due.is("the one with the lower first", questions(four).buy(6), 9);
        int[][] later = {{1, 0b00001}, {3, 0b00010}, {4, 0b00110}, {2, 0b11000}, {3, 0b11100}};
        Due.is("where they first differ", questions(later).buy(7), 19);
        Due.is("what tells nothing is not bought", questions(new int[][] {{1, 0}, {2, 1}}).buy(400), 2);
    }

    private static void judge() {
        DiaryHouse x = questions(new int[][] {{10, 3}, {5, 1}, {6, 6}});
        Due.is("judge(0, 0)", x.judge(0, 0), 0);
        Due.is("judge(1, 10)", x.judge(1, 10), 2);
        Due.is("judge(1, 9)", x.judge(1, 9), -1);
        Due.is("judge(7, 21)", x.judge(7, 21), 3);
        Due.is("judge(7, 20)", x.judge(7, 20), -1);
        Due.is("judge(5, 400)", x.judge(5, 400), 3);
        Due.is("judge(8, 400)", x.judge(8, 400), -2);
        Due.is("judge(-1, 400)", x.judge(-1, 400), -2);
        Due.is("judge(1, 401)", x.judge(1, 401), -2);
        Due.is("judge(1, -1)", x.judge(1, -1), -2);
        Due.is("judge(0, 0) of none", new DiaryHouse().judge(0, 0), 0);
        Due.is("judge(1, 0) of none", new DiaryHouse().judge(1, 0), -2);
        for (int i = 3; i < 8; i++) {
            x.question(50, 1 << i);
        }
        Due.is("judge(255, 271)", x.judge(255, 271), 8);
        Due.is("judge(255, 270)", x.judge(255, 270), -1);
        Due.is("judge(256, 400)", x.judge(256, 400), -2);
    }

    private static DiaryHouse persons(int n) {
        DiaryHouse x = new DiaryHouse();
        for (int i = 0; i < n; i++) {
            x.person(0, 20, 1);
        }
        return x;
    }

    private static void lot() {
        DiaryHouse x = persons(3);
        java.math.BigInteger two64 = java.math.BigInteger.ONE.shiftLeft(64);
        for (long seed : new long[] {0, 5, -1, Long.MIN_VALUE, Long.MAX_VALUE, 123456789012345L}) {
            java.math.BigInteger value = java.math.BigInteger.valueOf(seed).mod(two64);
            java.util.List<Integer> left = new java.util.ArrayList<>(java.util.List.of(0, 1, 2));
            for (int i = 0; i < 3; i++) {
                value = value.multiply(new java.math.BigInteger("6364136223846793005"))
                        .add(new java.math.BigInteger("1442695040888963407")).mod(two64);
                int at = value.shiftRight(33).mod(java.math.BigInteger.valueOf(left.size())).intValue();
                Due.is("lot(3, " + seed + ", " + i + ")", x.lot(3, seed, i), left.remove(at));
            }
            Due.is("lot(1) draws from all", x.lot(1, seed, 0), x.lot(3, seed, 0));
        }
        Due.is("lot(0, 5, 0)", x.lot(0, 5, 0), -1);
        Due.is("lot(-1, 5, 0)", x.lot(-1, 5, 0), -1);
        Due.is("lot(4, 5, 0)", x.lot(4, 5, 0), -1);
        Due.is("lot(2, 5, 2)", x.lot(2, 5, 2), -1);
        Due.is("lot(2, 5, -1)", x.lot(2, 5, -1), -1);
        Due.is("lot of nobody", persons(0).lot(1, 5, 0), -1);
    }

    private static void lotOfAll() {
        DiaryHouse x = persons(24);
        int met = 0;
        for (int i = 0; i < 24; i++) {
            int one = x.lot(24, 42, i);
            Due.is("each is drawn once", met >> one & 1, 0);
            met |= 1 << one;
        }
        Due.is("all are drawn", met, (1 << 24) - 1);
    }

    private static void beside() {
        DiaryHouse x = persons(3);
        x.days(2);
        int[] moods = {1, 2, 4};
        for (int person = 0; person < 3; person++) {
            x.line(person, 1, 0, moods[person], -1, -1);
            x.line(person, 2, 0, -moods[person], -1, -1);
        }
        x.days(1);
        x.line(0, 1, 0, 8, -1, -1);
        // drawn by 5 are 1, then 2, then 0
        Due.is("beside(1, 5, 1)", x.beside(1, 5, 1), 2);
        Due.is("beside(2, 5, 1)", x.beside(2, 5, 1), 6);
        Due.is("beside(3, 5, 1)", x.beside(3, 5, 1), 15);
        Due.is("beside(2, 5, 2)", x.beside(2, 5, 2), -6);
        Due.is("beside(2, 5, 0)", x.beside(2, 5, 0), 0);
        Due.is("beside(2, 5, 3)", x.beside(2, 5, 3), 0);
        Due.is("beside(2, 5, 4)", x.beside(2, 5, 4), HIDDEN);
        Due.is("beside(2, 5, -1)", x.beside(2, 5, -1), HIDDEN);
        Due.is("beside(0, 5, 1)", x.beside(0, 5, 1), HIDDEN);
        Due.is("beside(4, 5, 1)", x.beside(4, 5, 1), HIDDEN);
    }

    private static void count() {
        DiaryHouse x = persons(3);
        x.days(4);
        x.line(0, 0, 0, 0, -1, -1);
        x.line(0, 0, 0, 0, -1, -1);
        Due.feed(x, "q:1");
        x.rule(0);
        x.happen(0, 0, 0, true);
        x.happen(0, 0, 0, true);
        x.mark(0, 0, 1);
        x.mark(0, 0, 1);
        x.mark(0, 0, 2);
        x.watcher(0, 1);
        x.want(0, 0);
        x.want(0, 0);
        x.question(1, 1);
        Due.feed(x, "q:1;");
        x.stop(0, 4);
        x.stop(1, 5);
        x.stop(2, 0);
        x.land(0, 0, 7);
        x.land(7, 3, 5);
        int[] want = {4, 3, 2, 1, 2, 3, 1, 2, 1, 4, 2, 12};
        for (int what = 0; what < want.length; what++) {
            Due.is("count(" + what + ")", x.count(what), want[what]);
        }
        x.stop(2, 9);
        Due.is("STOPPED by NOW", x.count(10), 1);
        x.days(1);
        Due.is("STOPPED by NOW a DAY later", x.count(10), 2);
        Due.is("count(12)", x.count(12), -1);
        Due.is("count(-1)", x.count(-1), -1);
        Due.is("count(MAX)", x.count(Integer.MAX_VALUE), -1);
        Due.is("count(MIN)", x.count(Integer.MIN_VALUE), -1);
    }
}
