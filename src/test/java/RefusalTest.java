import java.util.ArrayList;
import java.util.List;

/** Each refusal, in the document's order of them, and that nothing has changed after it. */
public final class RefusalTest {
    private static final int UNKNOWN = -2, OUTSIDE = -3, NOT = -4;
    private static final int LOW = Integer.MIN_VALUE, HIGH = Integer.MAX_VALUE;
    private static final Check check = new Check();

    public static void main(String[] args) {
        for (int wrong : new int[] {-1, 8, LOW, HIGH}) {
            unknownCells(wrong);
        }
        for (int wrong : new int[] {-1, 2, LOW, HIGH}) {
            unknownLayers(wrong);
        }
        unknownRest();
        outside();
        refused(NOT, "free", 5, 5);
        check.end();
    }

    private static void unknownCells(int wrong) {
        String[] ofCell = {"tone", "tell", "at", "wanted", "width"};
        for (String name : ofCell) {
            refused(UNKNOWN, name, wrong, 2, 1);
            refused(UNKNOWN, name, 2, wrong, 1);
            refused(UNKNOWN, name, wrong, wrong, HIGH);
        }
        for (String name : new String[] {"free", "made", "knot"}) {
            refused(UNKNOWN, name, wrong, 2);
            refused(UNKNOWN, name, 2, wrong);
        }
        refused(UNKNOWN, "shade", wrong, 2, 5, 5, 1);
        refused(UNKNOWN, "shade", 2, wrong, 5, 5, 1);
        refused(UNKNOWN, "shade", 2, 2, wrong, 5, 1);
        refused(UNKNOWN, "shade", 2, 2, 5, wrong, 1);
        refused(UNKNOWN, "shade", 2, 2, 5, wrong, 101);
        refused(UNKNOWN, "shade", 5, 2, 2, wrong, 1);
    }

    private static void unknownLayers(int wrong) {
        refused(UNKNOWN, "wanted", 2, 2, wrong);
        refused(UNKNOWN, "width", 2, 2, wrong);
        refused(UNKNOWN, "paths", wrong);
        refused(UNKNOWN, "path", wrong, 0, 0);
        refused(UNKNOWN, "path", wrong, 0, 4);
        refused(UNKNOWN, "cut", wrong, 0);
        refused(UNKNOWN, "cut", wrong, -1);
        refused(UNKNOWN, "begin", wrong, 0);
        refused(UNKNOWN, "begin", wrong, 99);
        refused(UNKNOWN, "air", wrong);
    }

    private static void unknownRest() {
        refused(UNKNOWN, "knot", 7, 2);
        refused(UNKNOWN, "knot", 2, 7);
        for (int k : new int[] {-1, 64, LOW, HIGH}) {
            refused(UNKNOWN, "path", 0, k, 0);
            refused(UNKNOWN, "path", 0, k, 4);
        }
    }

    private static void outside() {
        for (int v : new int[] {-1, 101, LOW, HIGH}) {
            refused(OUTSIDE, "tone", 2, 2, v);
            refused(OUTSIDE, "shade", 2, 2, 5, 5, v);
        }
        refused(OUTSIDE, "shade", 5, 2, 2, 5, 1);
        refused(OUTSIDE, "shade", 2, 5, 5, 2, 1);
        for (int turn : new int[] {-1, 8, LOW, HIGH}) {
            refused(OUTSIDE, "tell", 3, 3, turn);
            refused(OUTSIDE, "tell", 5, 5, turn);
        }
        for (int what : new int[] {-1, 5, LOW, HIGH}) {
            refused(OUTSIDE, "at", 2, 2, what);
            refused(OUTSIDE, "error", what);
            refused(OUTSIDE, "path", 0, 0, what);
            refused(OUTSIDE, "count", what);
            refused(OUTSIDE, "set", what, 10);
        }
        refused(OUTSIDE, "at", 2, 2, 3);
        refused(OUTSIDE, "error", 2);
        refused(OUTSIDE, "path", 0, 0, 4);
        refused(OUTSIDE, "set", 4, 10);
        int[][] beyond = {{3, 41}, {9, 101}, {0, 11}, {0, 41}};
        for (int what = 0; what < 4; what++) {
            for (int v : new int[] {beyond[what][0], beyond[what][1], LOW, HIGH}) {
                refused(OUTSIDE, "set", what, v);
            }
        }
        for (int i : new int[] {-1, 64, LOW, HIGH}) {
            refused(OUTSIDE, "cut", 0, i);
            refused(OUTSIDE, "begin", 1, i);
        }
    }

    private static BurinLines before() {
        BurinLines b = new BurinLines();
        b.shade(1, 1, 6, 6, 80);
        b.tone(2, 3, 35);
        b.tell(3, 3, 6);
        b.tell(2, 2, 3);
        b.tell(7, 7, 5);
        b.free(7, 7);
        b.even();
        b.set(0, 20);
        b.set(1, 50);
        b.set(2, 2);
        b.set(3, 3);
        return b;
    }

    private static void refused(int want, String name, int... args) {
        Call call = Call.of(name, args);
        BurinLines b = before();
        check.due(call.toString(), call.on(b), want);
        check.holds("nothing has changed after " + call, seen(b).equals(seen(before())));
    }

    /** All that can be asked of an object, at least once, within the calls it is good for. */
    private static List<Integer> seen(BurinLines b) {
        List<Integer> seen = new ArrayList<>();
        for (int cell = 0; cell < 64; cell++) {
            for (int what = 0; what < 3; what++) {
                seen.add(b.at(cell % 8, cell / 8, what));
            }
            seen.add(b.width(cell % 8, cell / 8, 0));
            seen.add(b.width(cell % 8, cell / 8, 1));
        }
        for (int layer = 0; layer < 2; layer++) {
            seen.add(b.paths(layer));
            seen.add(b.air(layer));
            seen.add(b.cut(layer, 3));
            seen.add(b.begin(layer, 3));
            seen.add(b.path(layer, 1, 1));
        }
        for (int what = 0; what < 5; what++) {
            seen.add(b.count(what));
        }
        for (int what = 0; what < 4; what++) {
            seen.add(b.set(what, 10));
        }
        return seen;
    }
}
