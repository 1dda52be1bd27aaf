/** Promises 1 to 7. */
public final class PersonsAndLinesTest {
    public static void main(String[] args) {
        aNewObject();
        days();
        person();
        line();
        lineLimit();
        told();
        stop();
        stopped();
        stopLimit();
        Due.end();
    }

    private static void aNewObject() {
        DiaryHouse x = new DiaryHouse();
        for (int what = 0; what <= 11; what++) {
            Due.is("new: count(" + what + ")", x.count(what), 0);
        }
        Due.is("new: fault()", x.fault(), 0);
        Due.is("new: table(NONE)", x.table(-1), 0);
        Due.is("new: force(0, 0)", x.force(0, 0), -1);
        Due.toldRefuses(x, 0, 0);
    }

    private static void days() {
        DiaryHouse x = new DiaryHouse();
        Due.is("days(0)", x.days(0), 0);
        Due.is("days(-1)", x.days(-1), -1);
        Due.is("days(401)", x.days(401), -1);
        Due.is("days(MAX)", x.days(Integer.MAX_VALUE), -1);
        Due.is("days(MIN)", x.days(Integer.MIN_VALUE), -1);
        Due.is("NOW after what was refused", x.count(0), 0);
        Due.is("days(400)", x.days(400), 400);
        Due.is("days(400) again", x.days(400), 800);
        Due.is("days(201)", x.days(201), -1);
        Due.is("days(200)", x.days(200), 1000);
        Due.is("days(1) at the end", x.days(1), -1);
        Due.is("days(0) at the end", x.days(0), 1000);
    }

    private static void person() {
        DiaryHouse x = new DiaryHouse();
        int[][] wrong = {{-1, 20, 1}, {8, 20, 1}, {0, 9, 1}, {0, 100, 1}, {0, 20, -1}, {0, 20, 8}};
        for (int[] p : wrong) {
            Due.is("person out of bounds", x.person(p[0], p[1], p[2]), -1);
        }
        Due.is("PERSONS", x.count(1), 0);
        Due.is("person(0, 10, 0)", x.person(0, 10, 0), 0);
        Due.is("person(7, 99, 7)", x.person(7, 99, 7), 1);
        for (int i = 2; i < 24; i++) {
            Due.is("person " + i, x.person(1, 50, 1), i);
        }
        Due.is("a 25th person", x.person(1, 50, 1), -1);
        Due.is("PERSONS", x.count(1), 24);
    }

    private static void line() {
        DiaryHouse x = twoPersons();
        x.days(3);
        int[][] wrong = {
            {-1, 0, 0, 0, -1, -1}, {2, 0, 0, 0, -1, -1}, {0, -1, 0, 0, -1, -1}, {0, 4, 0, 0, -1, -1},
            {0, 0, -1, 0, -1, -1}, {0, 0, 10, 0, -1, -1}, {0, 0, 0, -10, -1, -1}, {0, 0, 0, 10, -1, -1},
            {0, 0, 0, 0, -2, -1}, {0, 0, 0, 0, 30, -1}, {0, 0, 0, 0, 0, -2}, {0, 0, 0, 0, 0, 2},
            {0, 0, 0, 0, 0, 0}, {0, 0, 0, 0, -1, 1}, {0, 0, 0, 0, -1, 0}, {0, 0, 0, 0, -1, -2},
        };
        for (int[] l : wrong) {
            Due.is("line " + java.util.Arrays.toString(l), x.line(l[0], l[1], l[2], l[3], l[4], l[5]), -1);
        }
        Due.is("LINES", x.count(2), 0);
        Due.is("line with the greatest", x.line(1, 3, 9, 9, 29, 0), 0);
        Due.is("line with the least", x.line(0, 0, 0, -9, 0, -1), 1);
        x.stop(0, 2);
        Due.is("a LINE ahead of the STOP", x.line(0, 1, 0, 0, -1, -1), 2);
        Due.is("a LINE for the STOP's DAY", x.line(0, 2, 0, 0, -1, -1), -1);
        Due.is("a LINE behind the STOP", x.line(0, 3, 0, 0, -1, -1), -1);
        Due.is("another's LINE", x.line(1, 3, 0, 0, -1, -1), 3);
        x.stop(0, 1000);
        Due.is("a LINE after a later STOP was told", x.line(0, 3, 0, 0, -1, -1), 4);
        x.stop(0, 0);
        Due.is("a LINE of one that never wrote", x.line(0, 0, 0, 0, -1, -1), -1);
    }

    private static void lineLimit() {
        DiaryHouse x = twoPersons();
        for (int i = 0; i < 200; i++) {
            Due.is("line " + i, x.line(i % 2, 0, 0, 0, -1, -1), i);
        }
        Due.is("a 201st line", x.line(0, 0, 0, 0, -1, -1), -1);
        Due.is("LINES", x.count(2), 200);
    }

    private static void told() {
        DiaryHouse x = twoPersons();
        x.days(5);
        x.line(1, 3, 7, -4, 12, 0);
        x.days(2);
        x.line(0, 6, 1, 2, -1, -1);
        x.line(0, 7, 2, 3, 5, -1);
        Due.told(x, 0, 1, 3, 7, -4, 12, 0, 5);
        Due.told(x, 1, 0, 6, 1, 2, -1, -1, 7);
        Due.told(x, 2, 0, 7, 2, 3, 5, -1, 7);
        Due.toldRefuses(x, 3, 0);
        Due.toldRefuses(x, -1, 0);
        Due.toldRefuses(x, 0, 7);
        Due.toldRefuses(x, 0, -1);
        Due.toldRefuses(x, Integer.MAX_VALUE, Integer.MIN_VALUE);
    }

    private static void stop() {
        DiaryHouse x = twoPersons();
        Due.is("stop(2, 0)", x.stop(2, 0), false);
        Due.is("stop(-1, 0)", x.stop(-1, 0), false);
        Due.is("stop(0, -1)", x.stop(0, -1), false);
        Due.is("stop(0, 1001)", x.stop(0, 1001), false);
        Due.is("stopped(0, 0)", x.stopped(0, 0), -1);
        Due.is("stop(0, 1000)", x.stop(0, 1000), true);
        Due.is("stop(1, 0)", x.stop(1, 0), true);
        Due.is("STOPPED by NOW", x.count(10), 1);
    }

    private static void stopped() {
        DiaryHouse x = twoPersons();
        x.stop(0, 7);
        x.days(2);
        x.stop(0, 4);
        x.stop(1, 9);
        x.stop(0, 5);
        x.days(1);
        Due.is("stopped(0, 0)", x.stopped(0, 0), 7);
        Due.is("stopped(0, 1)", x.stopped(0, 1), 7);
        Due.is("stopped(0, 2)", x.stopped(0, 2), 5);
        Due.is("stopped(0, 3)", x.stopped(0, 3), 5);
        Due.is("stopped(0, 4)", x.stopped(0, 4), -1);
        Due.is("stopped(0, -1)", x.stopped(0, -1), -1);
        Due.is("stopped(1, 1)", x.stopped(1, 1), -1);
        Due.is("stopped(1, 2)", x.stopped(1, 2), 9);
        Due.is("stopped(2, 0)", x.stopped(2, 0), -1);
        Due.is("stopped(-1, 0)", x.stopped(-1, 0), -1);
    }

    private static void stopLimit() {
        DiaryHouse x = twoPersons();
        x.stop(5, 0);
        for (int i = 0; i < 60; i++) {
            Due.is("stop " + i, x.stop(i % 2, i), true);
        }
        Due.is("a 61st stop", x.stop(0, 3), false);
        Due.is("stopped(0, 0)", x.stopped(0, 0), 58);
    }

    private static DiaryHouse twoPersons() {
        DiaryHouse x = new DiaryHouse();
        x.person(0, 20, 1);
        x.person(1, 30, 2);
        return x;
    }
}
