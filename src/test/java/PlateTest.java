/** Promises 1 to 8, with answers worked out by hand from the document. */
public final class PlateTest {
    private static final Check check = new Check();

    /** From the search for a plate that is not even after 20 goings; 1: the CELL stays TOLD. */
    private static final String SLOW_TURNS = "6030332266677757112125723426515767254415660227717040654024235245";
    private static final String SLOW_TOLD = "0000111010000011101001010010011000110110001100010000000010110110";

    public static void main(String[] args) {
        newObject();
        tone();
        shade();
        tellAndFree();
        evenOneCell();
        evenInTurn();
        evenRowByRow();
        evenTwentyTimes();
        at();
        knot();
        check.end();
    }

    private static void newObject() {
        BurinLines b = new BurinLines();
        for (int cell = 0; cell < 64; cell++) {
            for (int what = 0; what < 3; what++) {
                check.due("new at " + cell + ", " + what, b.at(cell % 8, cell / 8, what), 0);
            }
        }
        for (int what = 0; what < 5; what++) {
            check.due("new count " + what, b.count(what), 0);
        }
        for (int layer = 0; layer < 2; layer++) {
            check.due("new paths", b.paths(layer), 0);
            check.due("new air", b.air(layer), 0);
        }
        check.due("new error 0", b.error(0), 0);
        check.due("new error 1", b.error(1), 0);
        check.due("new S", b.set(0, 4), 10);
        check.due("new CROSS", b.set(1, 10), 60);
        check.due("new LEAST", b.set(2, 2), 1);
        check.due("new SWELL", b.set(3, 1), 40);
        check.due("another new object has its own S", new BurinLines().set(0, 4), 10);
    }

    private static void tone() {
        BurinLines b = new BurinLines();
        check.due("tone 100", b.tone(1, 0, 100), 0);
        check.due("tone 0 again", b.tone(1, 0, 0), 100);
        check.due("tone 7", b.tone(1, 0, 7), 0);
        check.due("tone same", b.tone(1, 0, 7), 7);
        check.due("x is not y", b.at(0, 1, 0), 0);
        check.due("last cell", b.tone(7, 7, 3), 0);
        check.due("last cell is kept", b.at(7, 7, 0), 3);
        check.due("no TURN", b.at(1, 0, 1), 0);
        check.due("not TOLD", b.at(1, 0, 2), 0);
        check.due("x 8", b.tone(8, 0, 1), -2);
        check.due("x -1", b.tone(-1, 1, 1), -2);
        check.due("y 8", b.tone(0, 8, 1), -2);
        check.due("y -1", b.tone(0, -1, 1), -2);
        check.due("v -1", b.tone(1, 0, -1), -3);
        check.due("v 101", b.tone(1, 0, 101), -3);
        check.due("UNKNOWN before OUTSIDE", b.tone(8, 0, 101), -2);
        check.due("as before", b.at(1, 0, 0), 7);
    }

    private static void shade() {
        BurinLines b = new BurinLines();
        check.due("box", b.shade(1, 2, 3, 5, 40), 12);
        check.due("first corner", b.at(1, 2, 0), 40);
        check.due("second corner", b.at(3, 5, 0), 40);
        check.due("left of it", b.at(0, 2, 0), 0);
        check.due("above it", b.at(1, 1, 0), 0);
        check.due("right of it", b.at(4, 5, 0), 0);
        check.due("below it", b.at(3, 6, 0), 0);
        check.due("same again", b.shade(1, 2, 3, 5, 40), 0);
        check.due("one CELL", b.shade(2, 3, 2, 3, 41), 1);
        check.due("all but one", b.shade(1, 2, 3, 5, 41), 11);
        check.due("whole plate", b.shade(0, 0, 7, 7, 100), 64);
        check.due("white again", b.shade(0, 0, 7, 7, 0), 64);
        check.due("white is white", b.shade(0, 0, 7, 7, 0), 0);
        check.due("first corner unknown", b.shade(-1, 0, 2, 2, 5), -2);
        check.due("first corner unknown, y", b.shade(0, -1, 2, 2, 5), -2);
        check.due("second corner unknown", b.shade(0, 0, 8, 2, 5), -2);
        check.due("second corner unknown, y", b.shade(0, 0, 2, 8, 5), -2);
        check.due("x behind", b.shade(3, 0, 2, 2, 5), -3);
        check.due("y behind", b.shade(0, 3, 2, 2, 5), -3);
        check.due("v -1", b.shade(0, 0, 2, 2, -1), -3);
        check.due("v 101", b.shade(0, 0, 2, 2, 101), -3);
        check.due("UNKNOWN before OUTSIDE", b.shade(8, 0, 2, 2, 101), -2);
        check.due("nothing changed", b.count(0), 0);
    }

    private static void tellAndFree() {
        BurinLines b = new BurinLines();
        check.due("free of one never TOLD", b.free(2, 1), -4);
        check.due("tell 7", b.tell(2, 1, 7), 0);
        check.due("TURN", b.at(2, 1, 1), 7);
        check.due("TOLD", b.at(2, 1, 2), 1);
        check.due("x is not y", b.at(1, 2, 2), 0);
        check.due("tell 0", b.tell(2, 1, 0), 7);
        check.due("a TURN told as it was is TOLD too", b.tell(3, 3, 0), 0);
        check.due("two are TOLD", b.count(1), 2);
        check.due("tell 5", b.tell(2, 1, 5), 0);
        check.due("turn -1", b.tell(2, 1, -1), -3);
        check.due("turn 8", b.tell(2, 1, 8), -3);
        check.due("turn 8 for one not TOLD", b.tell(4, 4, 8), -3);
        check.due("is not TOLD by that", b.at(4, 4, 2), 0);
        check.due("x 8", b.tell(8, 0, 9), -2);
        check.due("y -1", b.tell(0, -1, 1), -2);
        check.due("free x 8", b.free(8, 0), -2);
        check.due("free y 8", b.free(0, 8), -2);
        check.due("free", b.free(2, 1), 1);
        check.due("TURN stays", b.at(2, 1, 1), 5);
        check.due("no more TOLD", b.at(2, 1, 2), 0);
        check.due("free again", b.free(2, 1), -4);
        check.due("tell after free", b.tell(2, 1, 4), 5);
        check.due("TOLD again", b.at(2, 1, 2), 1);
        check.due("free after tell", b.free(2, 1), 1);
    }

    /** All CELLS TOLD as a TURN. */
    private static BurinLines allTold(int turn) {
        BurinLines b = new BurinLines();
        for (int cell = 0; cell < 64; cell++) {
            b.tell(cell % 8, cell / 8, turn);
        }
        return b;
    }

    /** Only the corner is free: it starts with a TURN, the two beside it are TOLD. */
    private static void evenCorner(int start, int right, int below, int want) {
        BurinLines b = allTold(0);
        b.tell(0, 0, start);
        b.free(0, 0);
        b.tell(1, 0, right);
        b.tell(0, 1, below);
        String what = "corner from " + start + " beside " + right + " and " + below;
        check.due(what + ": goings", b.even(), start == want ? 1 : 2);
        check.due(what, b.at(0, 0, 1), want);
        check.due(what + ": is not TOLD by that", b.at(0, 0, 2), 0);
        check.due(what + ": beside it", b.at(1, 0, 1), right);
        check.due(what + ": and again", b.even(), 1);
    }

    private static void evenOneCell() {
        check.due("even on a white plate", new BurinLines().even(), 1);
        check.due("all are TOLD", allTold(3).even(), 1);
        evenCorner(0, 0, 2, 1);
        evenCorner(5, 3, 3, 3);
        evenCorner(0, 0, 4, 2);
        evenCorner(6, 0, 4, 6);
        evenCorner(5, 0, 1, 0);
        evenCorner(1, 0, 1, 1);
        evenCorner(4, 0, 7, 0);
        evenCorner(7, 0, 7, 7);
        evenCorner(3, 7, 5, 6);
        evenCorner(3, 1, 7, 0);
        BurinLines b = allTold(0);
        b.free(1, 0);
        b.tell(1, 1, 3);
        check.due("squares, not plain sums: goings", b.even(), 2);
        check.due("squares, not plain sums", b.at(1, 0, 1), 1);
        BurinLines all = allTold(0);
        all.tell(3, 2, 4);
        all.tell(3, 4, 4);
        all.tell(2, 3, 4);
        all.tell(4, 3, 4);
        all.free(3, 3);
        check.due("one in the midst: goings", all.even(), 2);
        check.due("one in the midst", all.at(3, 3, 1), 4);
        check.due("TOLD ones stay", all.at(3, 2, 1), 4);
    }

    private static void evenInTurn() {
        BurinLines b = allTold(4);
        b.tell(0, 0, 0);
        b.free(0, 0);
        b.tell(1, 0, 0);
        b.free(1, 0);
        // (2, 3), then (3, 4), then (4, 4), then nothing; all at once would take five goings.
        check.due("one after the other: goings", b.even(), 4);
        check.due("one after the other: left", b.at(0, 0, 1), 4);
        check.due("one after the other: right", b.at(1, 0, 1), 4);
    }

    private static void evenRowByRow() {
        // Along the way of going a TURN runs in one going, against it one CELL a going.
        int[][] rows = {{0, 1, 2}, {0, 8, 16}, {1, 8, 9}};
        for (int[] free : rows) {
            Model model = new Model();
            BurinLines b = allTold(4);
            for (int cell = 0; cell < 64; cell++) {
                model.answer(Call.of("tell", cell % 8, cell / 8, 4));
            }
            for (int cell : free) {
                for (Call call : new Call[] {Call.of("tell", cell % 8, cell / 8, 0), Call.of("free", cell % 8, cell / 8)}) {
                    check.due(call.toString(), call.on(b), model.answer(call));
                }
            }
            check.due("row by row", b.even(), model.answer(Call.of("even")));
        }
    }

    private static BurinLines slowPlate() {
        BurinLines b = new BurinLines();
        for (int cell = 0; cell < 64; cell++) {
            b.tell(cell % 8, cell / 8, SLOW_TURNS.charAt(cell) - '0');
            if (SLOW_TOLD.charAt(cell) == '0') {
                b.free(cell % 8, cell / 8);
            }
        }
        return b;
    }

    private static void evenTwentyTimes() {
        BurinLines b = slowPlate();
        check.due("20 goings at most", b.even(), 20);
        check.due("what was left after them", b.even(), 7);
        check.due("then nothing", b.even(), 1);
    }

    private static void at() {
        BurinLines b = new BurinLines();
        b.tone(6, 2, 33);
        b.tell(6, 2, 5);
        check.due("TONE", b.at(6, 2, 0), 33);
        check.due("TURN", b.at(6, 2, 1), 5);
        check.due("TOLD", b.at(6, 2, 2), 1);
        check.due("what 3", b.at(6, 2, 3), -3);
        check.due("what -1", b.at(6, 2, -1), -3);
        check.due("x -1", b.at(-1, 2, 0), -2);
        check.due("x 8", b.at(8, 2, 0), -2);
        check.due("y -1", b.at(6, -1, 0), -2);
        check.due("y 8", b.at(6, 8, 0), -2);
        check.due("UNKNOWN before OUTSIDE", b.at(6, 8, 3), -2);
    }

    /** TURNS of a block from its first CELL on, the way the document goes around. */
    private static void knotOf(int x, int y, int[] turns, int want) {
        BurinLines b = new BurinLines();
        b.tell(x, y, turns[0]);
        b.tell(x + 1, y, turns[1]);
        b.tell(x + 1, y + 1, turns[2]);
        b.tell(x, y + 1, turns[3]);
        check.due("knot " + x + ", " + y + " of " + java.util.Arrays.toString(turns), b.knot(x, y), want);
    }

    private static void knot() {
        knotOf(0, 0, new int[] {0, 2, 4, 6}, 1);
        knotOf(6, 6, new int[] {0, 6, 4, 2}, -1);
        knotOf(0, 6, new int[] {0, 3, 6, 1}, 1);
        knotOf(6, 0, new int[] {0, 5, 2, 7}, -1);
        knotOf(3, 4, new int[] {0, 3, 3, 1}, 0);
        knotOf(3, 4, new int[] {7, 0, 1, 0}, 0);
        knotOf(2, 2, new int[] {5, 1, 2, 4}, 2);
        knotOf(2, 2, new int[] {1, 5, 4, 2}, 2);
        knotOf(2, 2, new int[] {1, 2, 6, 0}, 2);
        knotOf(2, 2, new int[] {2, 3, 1, 5}, 2);
        knotOf(2, 2, new int[] {0, 1, 2, 4}, 2);
        knotOf(2, 2, new int[] {0, 4, 0, 4}, 2);
        BurinLines b = new BurinLines();
        check.due("knot of a white plate", b.knot(6, 6), 0);
        check.due("x 7", b.knot(7, 0), -2);
        check.due("y 7", b.knot(0, 7), -2);
        check.due("x -1", b.knot(-1, 0), -2);
        check.due("y -1", b.knot(0, -1), -2);
    }
}
