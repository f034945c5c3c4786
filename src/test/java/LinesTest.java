/** Promises 9 to 13, with answers worked out by hand from the document. */
public final class LinesTest {
    private static final Check check = new Check();

    public static void main(String[] args) {
        set();
        wanted();
        widthInARow();
        widthByWay();
        widthOfNotTied();
        widthOfBothLayers();
        made();
        error();
        check.end();
    }

    private static void set() {
        int[] first = {10, 60, 1, 40};
        int[] lowest = {4, 10, 1, 1};
        int[] highest = {40, 100, 10, 40};
        BurinLines b = new BurinLines();
        for (int what = 0; what < 4; what++) {
            check.due("set " + what + " below", b.set(what, lowest[what] - 1), -3);
            check.due("set " + what + " above", b.set(what, highest[what] + 1), -3);
            check.due("set " + what + " lowest", b.set(what, lowest[what]), first[what]);
            check.due("set " + what + " highest", b.set(what, highest[what]), lowest[what]);
            check.due("set " + what + " same", b.set(what, highest[what]), highest[what]);
        }
        for (int what = 0; what < 4; what++) {
            check.due("each has its own: " + what, b.set(what, lowest[what]), highest[what]);
        }
        check.due("what -1", b.set(-1, 10), -3);
        check.due("what 4", b.set(4, 10), -3);
    }

    private static void wanted() {
        BurinLines b = new BurinLines();
        b.tone(2, 5, 59);
        check.due("cut", b.wanted(2, 5, 0), 5);
        check.due("nothing above CROSS", b.wanted(2, 5, 1), 0);
        check.due("x is not y", b.wanted(5, 2, 0), 0);
        b.tone(2, 5, 100);
        check.due("up to CROSS", b.wanted(2, 5, 0), 6);
        check.due("above CROSS", b.wanted(2, 5, 1), 4);
        b.tone(2, 5, 69);
        check.due("less than one above CROSS", b.wanted(2, 5, 1), 0);
        b.tone(2, 5, 70);
        check.due("one above CROSS", b.wanted(2, 5, 1), 1);
        b.set(0, 40);
        b.set(1, 10);
        b.tone(2, 5, 100);
        check.due("S 40, layer 0", b.wanted(2, 5, 0), 4);
        check.due("S 40, layer 1", b.wanted(2, 5, 1), 36);
        b.set(2, 4);
        check.due("not less than LEAST", b.wanted(2, 5, 0), 4);
        b.set(2, 5);
        check.due("less than LEAST", b.wanted(2, 5, 0), 0);
        check.due("LEAST and the other LAYER", b.wanted(2, 5, 1), 36);
        b.set(1, 100);
        check.due("CROSS 100, layer 0", b.wanted(2, 5, 0), 40);
        check.due("CROSS 100, layer 1", b.wanted(2, 5, 1), 0);
        check.due("layer 2", b.wanted(2, 5, 2), -2);
        check.due("layer -1", b.wanted(2, 5, -1), -2);
        check.due("x 8", b.wanted(8, 5, 0), -2);
        check.due("y 8", b.wanted(2, 8, 0), -2);
        check.due("x -1", b.wanted(-1, 5, 0), -2);
        check.due("y -1", b.wanted(2, -1, 0), -2);
    }

    private static BurinLines row(int y, int[] tones) {
        BurinLines b = new BurinLines();
        b.set(1, 100);
        for (int x = 0; x < tones.length; x++) {
            b.tone(x, y, tones[x]);
        }
        return b;
    }

    private static void widthInARow() {
        BurinLines b = row(3, new int[] {10, 60, 60, 60, 60, 60, 20, 60});
        int[] bySwell2 = {1, 3, 5, 6, 6, 4, 2, 4};
        int[] bySwell1 = {1, 2, 3, 4, 4, 3, 2, 3};
        b.set(3, 2);
        for (int x = 0; x < 8; x++) {
            check.due("SWELL 2 at " + x, b.width(x, 3, 0), bySwell2[x]);
            check.due("wanted is as it was at " + x, b.wanted(x, 3, 0) >= bySwell2[x] ? 1 : 0, 1);
        }
        b.set(3, 1);
        for (int x = 0; x < 8; x++) {
            check.due("SWELL 1 at " + x, b.width(x, 3, 0), bySwell1[x]);
        }
        b.set(3, 40);
        check.due("SWELL 40", b.width(1, 3, 0), 6);
        check.due("no STROKE", b.width(1, 4, 0), 0);
        b.set(3, 1);
        b.tone(3, 3, 0);
        check.due("a gap ends it, left of it", b.width(2, 3, 0), 3);
        check.due("a gap ends it, right of it", b.width(4, 3, 0), 4);
        check.due("in the gap", b.width(3, 3, 0), 0);
        check.due("layer 2", b.width(0, 3, 2), -2);
        check.due("layer -1", b.width(0, 3, -1), -2);
        check.due("x 8", b.width(8, 3, 0), -2);
        check.due("y -1", b.width(0, -1, 0), -2);
    }

    /** Two STROKES, of WIDTHS 1 and 5 wanted, with TURNS: is the second one bound by the first? */
    private static void tied(int turn0, int turn1, int dx, int dy, boolean isTied) {
        BurinLines b = new BurinLines();
        b.set(1, 100);
        b.set(3, 1);
        b.tone(3, 3, 10);
        b.tell(3, 3, turn0);
        b.tone(3 + dx, 3 + dy, 50);
        b.tell(3 + dx, 3 + dy, turn1);
        String what = "TURNS " + turn0 + ", " + turn1 + " by " + dx + ", " + dy;
        check.due(what, b.width(3 + dx, 3 + dy, 0), isTied ? 2 : 5);
        check.due(what + ": paths", b.paths(0), isTied ? 1 : 2);
    }

    private static void widthByWay() {
        int[] wayX = {1, 1, 0, -1};
        int[] wayY = {0, 1, 1, 1};
        for (int turn = 0; turn < 8; turn++) {
            for (int way = 0; way < 4; way++) {
                boolean its = turn / 2 == way;
                tied(turn, turn, wayX[way], wayY[way], its);
                tied(turn, turn, -wayX[way], -wayY[way], its);
            }
        }
        tied(2, 3, 1, 1, true);
        tied(7, 6, -1, 1, true);
        tied(1, 2, 1, 1, false);
        tied(1, 2, 1, 0, false);
        tied(0, 7, 1, 0, false);
    }

    private static void widthOfNotTied() {
        BurinLines b = row(0, new int[] {10, 60, 60, 60});
        b.set(3, 1);
        b.tell(1, 0, 4);
        check.due("another WAY is not bound", b.width(1, 0, 0), 6);
        check.due("nor what is behind it", b.width(2, 0, 0), 6);
        BurinLines edge = new BurinLines();
        edge.set(1, 100);
        edge.set(3, 1);
        edge.tone(7, 2, 10);
        edge.tone(0, 3, 60);
        check.due("a row ends at the plate's edge", edge.width(0, 3, 0), 6);
        check.due("two paths", edge.paths(0), 2);
    }

    private static void widthOfBothLayers() {
        BurinLines b = new BurinLines();
        b.shade(2, 0, 2, 4, 100);
        b.tone(2, 2, 70);
        b.set(3, 1);
        check.due("layer 1 goes down for TURN 0: bound", b.width(2, 1, 1), 2);
        check.due("layer 1: two off", b.width(2, 0, 1), 3);
        check.due("layer 1: the narrow one", b.width(2, 2, 1), 1);
        check.due("layer 0 goes across for TURN 0: free", b.width(2, 1, 0), 6);
        for (int turn = 0; turn < 8; turn++) {
            BurinLines one = new BurinLines();
            int[] wayX = {0, -1, 1, 1};
            int[] wayY = {1, 1, 0, 1};
            int x = 3 + wayX[turn / 2];
            int y = 3 + wayY[turn / 2];
            one.set(3, 1);
            one.tone(3, 3, 70);
            one.tone(x, y, 100);
            one.tell(3, 3, turn);
            one.tell(x, y, turn);
            check.due("layer 1, TURN " + turn, one.width(x, y, 1), 2);
        }
    }

    private static void made() {
        BurinLines b = new BurinLines();
        b.set(0, 7);
        b.set(1, 50);
        b.tone(4, 1, 50);
        b.tone(1, 4, 100);
        check.due("one LAYER, cut", b.made(4, 1), 42);
        check.due("both together, then cut", b.made(1, 4), 85);
        check.due("white", b.made(0, 0), 0);
        b.set(2, 4);
        check.due("no STROKES", b.made(1, 4), 0);
        check.due("x 8", b.made(8, 0), -2);
        check.due("x -1", b.made(-1, 0), -2);
        check.due("y 8", b.made(0, 8), -2);
        check.due("y -1", b.made(0, -1), -2);
        BurinLines bound = row(0, new int[] {10, 60});
        bound.set(3, 1);
        check.due("by WIDTH, not by that wanted", bound.made(1, 0), 20);
    }

    private static void error() {
        BurinLines b = new BurinLines();
        b.set(0, 7);
        b.set(1, 50);
        b.tone(4, 1, 50);
        b.tone(1, 4, 100);
        check.due("greatest", b.error(0), 15);
        check.due("all together", b.error(1), 23);
        b.set(2, 10);
        check.due("greatest of no STROKES", b.error(0), 100);
        check.due("all together of no STROKES", b.error(1), 150);
        b.tone(0, 0, 9);
        b.tone(7, 7, 9);
        check.due("first and last CELL too", b.error(1), 168);
        check.due("what 2", b.error(2), -3);
        check.due("what -1", b.error(-1), -3);
    }
}
