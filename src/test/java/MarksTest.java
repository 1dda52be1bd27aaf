/** Promises 21 to 25. */
public final class MarksTest {
    public static void main(String[] args) {
        mark();
        marked();
        agree();
        habit();
        held();
        Due.end();
    }

    private static void mark() {
        DiaryHouse x = lines(2);
        int[][] wrong = {{-1, 0, 5}, {6, 0, 5}, {0, -1, 5}, {0, 2, 5}, {0, 0, -1}, {0, 0, 10}};
        for (int[] a : wrong) {
            Due.is("mark " + java.util.Arrays.toString(a), x.mark(a[0], a[1], a[2]), false);
        }
        Due.is("MARKS", x.count(5), 0);
        Due.is("mark(5, 1, 9)", x.mark(5, 1, 9), true);
        for (int i = 1; i < 200; i++) {
            Due.is("mark " + i, x.mark(0, 0, i % 10), true);
        }
        Due.is("a 201st mark", x.mark(0, 0, 3), false);
        Due.is("MARKS", x.count(5), 200);
        Due.is("marked once it was refused", x.marked(0, 0, 0), 9);
        Due.is("marked by another", x.marked(5, 1, 0), 9);
    }

    private static void marked() {
        DiaryHouse x = lines(200);
        x.days(2);
        x.mark(0, 0, 4);
        x.mark(0, 199, 0);
        x.days(1);
        x.mark(0, 0, 7);
        x.mark(0, 0, 3);
        Due.is("marked(0, 0, 1)", x.marked(0, 0, 1), -1);
        Due.is("marked(0, 0, 2)", x.marked(0, 0, 2), 4);
        Due.is("marked(0, 0, 3)", x.marked(0, 0, 3), 3);
        Due.is("marked(0, 199, 2)", x.marked(0, 199, 2), 0);
        Due.is("marked(1, 0, 3)", x.marked(1, 0, 3), -1);
        Due.is("marked(0, 1, 3)", x.marked(0, 1, 3), -1);
        int[][] wrong = {{-1, 0, 3}, {6, 0, 3}, {0, -1, 3}, {0, 200, 3}, {0, 0, 4}, {0, 0, -1}};
        for (int[] a : wrong) {
            Due.is("marked " + java.util.Arrays.toString(a), x.marked(a[0], a[1], a[2]), -1);
        }
    }

    private static void agree() {
        DiaryHouse x = lines(5);
        marks(x, 0, 1, 2, 3, 0, -1);
        marks(x, 5, 1, 3, -1, 0, 4);
        x.days(1);
        x.mark(0, 1, 3);
        x.mark(5, 2, 9);
        agreeIs(x, 0, 5, 0, 2, 3);
        agreeIs(x, 5, 0, 0, 2, 3);
        agreeIs(x, 5, 0, 1, 3, 4);
        agreeIs(x, 0, 1, 1, 0, 0);
        int[][] wrong = {{0, 0, 1, 0}, {-1, 0, 1, 0}, {0, -1, 1, 0}, {6, 0, 1, 0}, {0, 6, 1, 0},
            {0, 5, 2, 0}, {0, 5, -1, 0}, {0, 5, 1, -1}, {0, 5, 1, 2}};
        for (int[] a : wrong) {
            Due.is("agree " + java.util.Arrays.toString(a), x.agree(a[0], a[1], a[2], a[3]), -1);
        }
    }

    private static void habit() {
        DiaryHouse x = lines(5);
        marks(x, 0, 1, 2, 3, -1, 9);
        marks(x, 1, 2, 2, -1, 9, -1);
        marks(x, 2, 3, -1, 2, -1, -1);
        Due.is("habit(0, 0)", x.habit(0, 0), -500);
        Due.is("habit(1, 0)", x.habit(1, 0), 0);
        Due.is("habit(2, 0)", x.habit(2, 0), 666);
        Due.is("habit(3, 0)", x.habit(3, 0), 0);
        x.days(1);
        x.mark(1, 0, 5);
        x.mark(5, 4, 9);
        Due.is("habit(0, 1)", x.habit(0, 1), -1000);
        Due.is("habit(2, 1)", x.habit(2, 1), -333);
        Due.is("habit(0, 0) still", x.habit(0, 0), -500);
        Due.is("habit(-1, 0)", x.habit(-1, 0), -1000000);
        Due.is("habit(6, 0)", x.habit(6, 0), -1000000);
        Due.is("habit(0, 2)", x.habit(0, 2), -1000000);
        Due.is("habit(0, -1)", x.habit(0, -1), -1000000);
    }

    private static void held() {
        DiaryHouse x = lines(6);
        marks(x, 0, 4, 1, 7, 5, 9);
        marks(x, 1, 4, 2, 3, 5, 9);
        marks(x, 2, 5, 3, 7, 0, -1);
        marks(x, 3, -1, 4, 3, 0, -1);
        marks(x, 4, -1, 5, -1, 0, -1);
        heldIs(x, 0, 4, -1, 3, 0, 9, -1);
        x.days(1);
        x.mark(1, 0, 6);
        x.mark(3, 2, 7);
        x.mark(2, 3, 5);
        heldIs(x, 0, 4, -1, 3, 0, 9, -1);
        heldIs(x, 1, -1, -1, 7, 5, 9, -1);
        Due.is("held(6, 0)", x.held(6, 0), -1);
        Due.is("held(-1, 0)", x.held(-1, 0), -1);
        Due.is("held(4, 2)", x.held(4, 2), -1);
        Due.is("held(4, -1)", x.held(4, -1), -1);
    }

    private static void marks(DiaryHouse x, int reader, int... values) {
        for (int line = 0; line < values.length; line++) {
            if (values[line] >= 0) {
                Due.is("mark", x.mark(reader, line, values[line]), true);
            }
        }
    }

    private static void agreeIs(DiaryHouse x, int one, int other, int q, int alike, int both) {
        String call = "agree(" + one + ", " + other + ", " + q + ", ";
        Due.is(call + "0)", x.agree(one, other, q, 0), alike);
        Due.is(call + "1)", x.agree(one, other, q, 1), both);
    }

    private static void heldIs(DiaryHouse x, int q, int... marks) {
        for (int line = 0; line < marks.length; line++) {
            Due.is("held(" + line + ", " + q + ")", x.held(line, q), marks[line]);
        }
    }

    private static DiaryHouse lines(int n) {
        DiaryHouse x = new DiaryHouse();
        x.person(0, 20, 1);
        for (int i = 0; i < n; i++) {
            x.line(0, 0, 0, 0, -1, -1);
        }
        return x;
    }
}
