/** Promises 32 to 34. */
public final class WatchersTest {
    public static void main(String[] args) {
        watcher();
        want();
        table();
        mostAreSeen();
        lowerWatchersFirst();
        hoursApart();
        Due.end();
    }

    private static void watcher() {
        DiaryHouse x = new DiaryHouse();
        int[][] wrong = {{-1, 0}, {0, 24}, {24, 24}, {5, 4}, {0, -1}};
        for (int[] a : wrong) {
            Due.is("watcher " + java.util.Arrays.toString(a), x.watcher(a[0], a[1]), -1);
        }
        Due.is("WATCHERS", x.count(6), 0);
        Due.is("watcher(0, 23)", x.watcher(0, 23), 0);
        Due.is("watcher(5, 5)", x.watcher(5, 5), 1);
        Due.is("watcher(0, 0)", x.watcher(0, 0), 2);
        Due.is("watcher(23, 23)", x.watcher(23, 23), 3);
        Due.is("a fifth", x.watcher(0, 23), -1);
        Due.is("WATCHERS", x.count(6), 4);
    }

    private static void want() {
        DiaryHouse x = new DiaryHouse();
        int[][] wrong = {{-1, 0}, {8, 0}, {0, -1}, {0, 24}};
        for (int[] a : wrong) {
            Due.is("want " + java.util.Arrays.toString(a), x.want(a[0], a[1]), -1);
        }
        Due.is("WANTED", x.count(7), 0);
        for (int i = 0; i < 8; i++) {
            Due.is("want " + i, x.want(i, i == 7 ? 23 : 0), i);
        }
        Due.is("a ninth", x.want(0, 0), -1);
        Due.is("WANTED", x.count(7), 8);
        tableIs(x, -1, -1, -1, -1, -1, -1, -1, -1);
        x.watcher(0, 23);
        tableIs(x, 0, -1, -1, -1, -1, -1, -1, 0);
        x.watcher(23, 23);
        tableIs(x, 0, -1, -1, -1, -1, -1, -1, 0);
    }

    private static void table() {
        DiaryHouse x = new DiaryHouse();
        tableIs(x);
        x.watcher(5, 9);
        tableIs(x);
        x.want(0, 4);
        x.want(0, 5);
        x.want(0, 9);
        x.want(0, 10);
        tableIs(x, -1, 0, 0, -1);
        x.watcher(4, 4);
        tableIs(x, 1, 0, 0, -1);
        Due.is("table(4)", x.table(4), -2);
        Due.is("table(-2)", x.table(-2), -2);
        Due.is("table(MAX)", x.table(Integer.MAX_VALUE), -2);
        Due.is("table(MIN)", x.table(Integer.MIN_VALUE), -2);
    }

    private static void mostAreSeen() {
        DiaryHouse x = new DiaryHouse();
        x.watcher(8, 12);
        x.want(0, 10);
        // the first one is left out, since the two others are more
        x.want(1, 9);
        x.want(1, 11);
        tableIs(x, -1, 0, 0);
        // the first one goes to the second WATCHER, so that the other two are seen
        x.watcher(10, 10);
        tableIs(x, 1, 0, 0);
    }

    private static void lowerWatchersFirst() {
        DiaryHouse x = new DiaryHouse();
        for (int i = 0; i < 4; i++) {
            x.watcher(0, 23);
        }
        for (int i = 0; i < 8; i++) {
            x.want(i, 12);
        }
        tableIs(x, 0, 1, 2, 3, -1, -1, -1, -1);
        x = new DiaryHouse();
        x.watcher(10, 12);
        x.watcher(12, 13);
        x.want(0, 12);
        x.want(1, 12);
        x.want(2, 12);
        tableIs(x, 0, 1, -1);
        x.want(3, 10);
        tableIs(x, 0, 1, -1, 0);
        x.want(3, 11);
        tableIs(x, 0, 1, -1, 0, -1);
    }

    private static void hoursApart() {
        DiaryHouse x = new DiaryHouse();
        x.watcher(0, 23);
        x.want(3, 5);
        x.want(3, 5);
        tableIs(x, 0, -1);
        x.want(3, 6);
        x.want(4, 7);
        // an hour apart is enough in one PLACE, and two are needed between PLACES
        tableIs(x, 0, -1, 0, -1);
        x.want(3, 4);
        tableIs(x, 0, -1, 0, -1, 0);
        x.want(4, 8);
        tableIs(x, 0, -1, 0, -1, 0, 0);
    }

    private static void tableIs(DiaryHouse x, int... watchers) {
        int seen = 0;
        for (int i = 0; i < watchers.length; i++) {
            Due.is("table(" + i + ") of " + watchers.length, x.table(i), watchers[i]);
            seen += watchers[i] >= 0 ? 1 : 0;
        }
        Due.is("table(NONE) of " + watchers.length, x.table(-1), seen);
        Due.is("table behind the last", x.table(watchers.length), -2);
    }
}
