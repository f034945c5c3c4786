/** Promises 1 to 5, 7 and 8: each sentence that names an edge, at that edge and one beyond it. */
public final class PlateEdgesTest {
    private static final int UNKNOWN = Edges.UNKNOWN, OUTSIDE = Edges.OUTSIDE, NOT = Edges.NOT;
    private static final int LOW = Edges.LOW, HIGH = Edges.HIGH;
    private static final String CELLS = "THE PLATE has CELLS (x, y), x and y 0 ..";

    private static Edges edges;

    public static void main(String[] args) throws Exception {
        edges = new Edges();
        whiteAtFirst();
        callsUpTo512();

        toneBounds();
        toneIsThatWhichItWas();
        toneOfNoCell();

        shadeOfEachBox();
        shadeHowManyChanged();
        shadeOfUnknownCorner();
        shadeOutside();

        tellBounds();
        tellIsThatWhichItWas();
        tellOfNoCell();

        freeStaysAsItIs();
        freeNotNow();
        freeOfNoCell();

        atBounds();
        atOfNoCell();

        knotOfEachBlock();
        knotTold();
        knotTorn();
        knotOfAllTurns();
        knotOfNoBlock();
        edges.end(1, 2, 3, 4, 5, 7, 8);
    }

    // ---- promise 1

    private static void whiteAtFirst() {
        edges.of(1, "A white PLATE.");
        BurinLines b = new BurinLines();
        for (int cell = 0; cell < 64; cell++) {
            for (int what = 0; what < 3; what++) {
                edges.due(b, 0, "at", cell % 8, cell / 8, what);
            }
            edges.due(b, 0, "width", cell % 8, cell / 8, 0);
            edges.due(b, 0, "width", cell % 8, cell / 8, 1);
            edges.due(b, 0, "made", cell % 8, cell / 8);
        }
        for (int block = 0; block < 49; block++) {
            edges.due(b, 0, "knot", block % 7, block / 7);
        }
        for (int what = 0; what < 5; what++) {
            edges.due(b, 0, "count", what);
        }
        for (int either = 0; either < 2; either++) {
            edges.due(b, 0, "error", either);
            edges.due(b, 0, "paths", either);
            edges.due(b, 0, "air", either);
        }
        edges.due(b, 1, "even");
    }

    private static void callsUpTo512() {
        edges.of(1, "An object is used for at most 512 calls after it has been made");
        BurinLines changed = new BurinLines();
        for (int call = 0; call < 512; call++) {
            edges.due(changed, call < 64 ? 0 : (call - 64) % 101, "tone", call % 8, call / 8 % 8, call % 101);
        }
        Call[] questions = {
            Call.of("even"), Call.of("at", 2, 3, 0), Call.of("knot", 2, 2), Call.of("wanted", 3, 3, 1),
            Call.of("width", 3, 3, 0), Call.of("made", 3, 3), Call.of("error", 1), Call.of("paths", 1),
            Call.of("path", 0, 2, 1), Call.of("cut", 1, 2), Call.of("begin", 1, 2), Call.of("air", 0), Call.of("count", 3)
        };
        BurinLines asked = Plates.USED.make();
        for (int call = 0; call < 500; call++) {
            Call question = questions[call % questions.length];
            edges.due(asked, question.on(Plates.USED.make()), question.name, question.args);
        }
    }

    // ---- promise 2

    private static void toneBounds() {
        edges.of(2, "each with a TONE (0 .. 100; 0 at first)");
        BurinLines b = new BurinLines();
        edges.due(b, 0, "tone", 3, 4, 100);
        edges.due(b, 100, "tone", 3, 4, 0);
        edges.due(b, 0, "tone", 3, 4, 1);
        edges.due(b, 1, "tone", 3, 4, 99);
        edges.due(b, 99, "at", 3, 4, 0);
        BurinLines each = new BurinLines();
        for (int v = 0; v <= 100; v++) {
            edges.due(each, Math.max(v - 1, 0), "tone", 0, 0, v);
        }
        for (int v : new int[] {-1, 101, LOW, HIGH}) {
            edges.refused(OUTSIDE, "tone", 3, 3, v);
        }
    }

    private static void toneIsThatWhichItWas() {
        edges.of(2, "TONE of a CELL: that which it was.");
        BurinLines b = new BurinLines();
        for (int cell = 0; cell < 64; cell++) {
            edges.due(b, 0, "tone", cell % 8, cell / 8, cell + 1);
        }
        for (int cell = 0; cell < 64; cell++) {
            edges.due(b, cell + 1, "tone", cell % 8, cell / 8, cell + 1);
            edges.due(b, cell + 1, "at", cell % 8, cell / 8, 0);
            edges.due(b, 0, "at", cell % 8, cell / 8, 2);
        }
    }

    private static void toneOfNoCell() {
        edges.of(2, CELLS);
        edges.cells("tone", 50);
        edges.of(2, "UNKNOWN; OUTSIDE.");
        edges.unknown("tone", 7, 8, 101);
        edges.refused(UNKNOWN, "tone", 8, 0, -1);
    }

    // ---- promise 3

    /** All corners that there are: a box, or none because the first one is behind the second one. */
    private static void shadeOfEachBox() {
        edges.of(3, "TONE of all CELLS of a box becomes v: how many changed.");
        for (int corners = 0; corners < 4096; corners++) {
            int x0 = corners % 8;
            int y0 = corners / 8 % 8;
            int x1 = corners / 64 % 8;
            int y1 = corners / 512;
            boolean isBox = x0 <= x1 && y0 <= y1;
            BurinLines b = new BurinLines();
            edges.due(b, isBox ? (x1 - x0 + 1) * (y1 - y0 + 1) : OUTSIDE, "shade", x0, y0, x1, y1, 100);
            for (int cell = 0; cell < 64; cell++) {
                int x = cell % 8;
                int y = cell / 8;
                boolean inside = isBox && x >= x0 && x <= x1 && y >= y0 && y <= y1;
                edges.due(b, inside ? 100 : 0, "at", x, y, 0);
            }
        }
    }

    private static void shadeHowManyChanged() {
        edges.of(3, "how many changed.");
        BurinLines b = new BurinLines();
        edges.due(b, 0, "shade", 0, 0, 7, 7, 0);
        edges.due(b, 1, "shade", 7, 7, 7, 7, 5);
        edges.due(b, 0, "shade", 7, 7, 7, 7, 5);
        edges.due(b, 63, "shade", 0, 0, 7, 7, 5);
        edges.due(b, 0, "shade", 0, 0, 7, 7, 5);
        edges.due(b, 1, "shade", 0, 0, 0, 0, 6);
        edges.due(b, 64, "shade", 0, 0, 7, 7, 100);
        edges.due(b, 64, "shade", 0, 0, 7, 7, 0);
        edges.due(Plates.FULL.make(), 64, "shade", 0, 0, 7, 7, 99);
    }

    private static void shadeOfUnknownCorner() {
        edges.of(3, "UNKNOWN: a corner");
        for (int wrong : new int[] {-1, 8, LOW, HIGH}) {
            edges.refused(UNKNOWN, "shade", wrong, 0, 7, 7, 5);
            edges.refused(UNKNOWN, "shade", 0, wrong, 7, 7, 5);
            edges.refused(UNKNOWN, "shade", 0, 0, wrong, 7, 5);
            edges.refused(UNKNOWN, "shade", 0, 0, 7, wrong, 5);
        }
        edges.of(3, "UNKNOWN: a corner; OUTSIDE: v, or the first corner is behind the second one.");
        for (int v : new int[] {-1, 101}) {
            edges.refused(UNKNOWN, "shade", -1, 0, 7, 7, v);
            edges.refused(UNKNOWN, "shade", 0, 8, 7, 7, v);
            edges.refused(UNKNOWN, "shade", 0, 0, 8, 7, v);
            edges.refused(UNKNOWN, "shade", 0, 0, 7, -1, v);
        }
        edges.refused(UNKNOWN, "shade", 8, 0, 7, 7, 5);
        edges.refused(UNKNOWN, "shade", 0, 8, 7, 7, 5);
        edges.refused(UNKNOWN, "shade", 0, 0, -1, 7, 5);
        edges.refused(UNKNOWN, "shade", 0, 0, 7, -1, 5);
        edges.refused(UNKNOWN, "shade", 5, 5, 4, 8, 5);
        edges.refused(UNKNOWN, "shade", 8, 5, 4, 4, 101);
    }

    private static void shadeOutside() {
        edges.of(3, "OUTSIDE: v, or the first corner is behind the second one.");
        for (int v : new int[] {-1, 101, LOW, HIGH}) {
            edges.refused(OUTSIDE, "shade", 2, 2, 5, 5, v);
            edges.refused(OUTSIDE, "shade", 5, 5, 2, 2, v);
        }
        for (int v : new int[] {0, 1, 99, 100}) {
            BurinLines b = new BurinLines();
            edges.due(b, v == 0 ? 0 : 1, "shade", 4, 4, 4, 4, v);
            edges.due(b, v, "at", 4, 4, 0);
        }
        edges.due(new BurinLines(), 6, "shade", 3, 1, 3, 6, 5);
        edges.due(new BurinLines(), 6, "shade", 1, 3, 6, 3, 5);
        edges.refused(OUTSIDE, "shade", 4, 1, 3, 6, 5);
        edges.refused(OUTSIDE, "shade", 1, 4, 6, 3, 5);
        edges.refused(OUTSIDE, "shade", 7, 0, 0, 7, 5);
        edges.refused(OUTSIDE, "shade", 0, 7, 7, 0, 5);
        edges.refused(OUTSIDE, "shade", 7, 7, 0, 0, 5);
    }

    // ---- promise 4

    private static void tellBounds() {
        edges.of(4, "a TURN (0 .. 7; 0 at first: eighths of half a turn)");
        BurinLines b = new BurinLines();
        edges.due(b, 0, "tell", 4, 3, 7);
        edges.due(b, 7, "tell", 4, 3, 0);
        for (int turn = 0; turn < 8; turn++) {
            edges.due(b, Math.max(turn - 1, 0), "tell", 4, 3, turn);
            edges.due(b, turn, "at", 4, 3, 1);
        }
        for (int turn : new int[] {-1, 8, LOW, HIGH}) {
            edges.refused(OUTSIDE, "tell", 3, 3, turn);
            edges.refused(OUTSIDE, "tell", 5, 5, turn);
        }
    }

    private static void tellIsThatWhichItWas() {
        edges.of(4, "TURN of a CELL is TOLD: that which it was.");
        BurinLines b = new BurinLines();
        edges.due(b, 0, "tell", 0, 0, 0);
        edges.due(b, 1, "at", 0, 0, 2);
        for (int cell = 1; cell < 64; cell++) {
            edges.due(b, cell, "count", 1);
            edges.due(b, 0, "tell", cell % 8, cell / 8, cell % 7);
        }
        edges.due(b, 64, "count", 1);
        for (int cell = 0; cell < 64; cell++) {
            edges.due(b, cell % 7, "tell", cell % 8, cell / 8, 7);
            edges.due(b, 0, "at", cell % 8, cell / 8, 0);
        }
        edges.due(b, 64, "count", 1);
    }

    private static void tellOfNoCell() {
        edges.of(4, CELLS);
        edges.cells("tell", 7);
        edges.of(4, "UNKNOWN; OUTSIDE.");
        edges.unknown("tell", 7, 8, 8);
        edges.refused(UNKNOWN, "tell", 0, 8, -1);
    }

    // ---- promise 5

    private static void freeStaysAsItIs() {
        edges.of(5, "TURN of a CELL is no more TOLD (it stays as it is): 1.");
        BurinLines b = Plates.FULL.make();
        int[][] turns = {{0, 2}, {6, 4}};
        for (int cell = 0; cell < 64; cell++) {
            int x = cell % 8;
            int y = cell / 8;
            edges.due(b, 1, "free", x, y);
            edges.due(b, turns[y % 2][x % 2], "at", x, y, 1);
            edges.due(b, 0, "at", x, y, 2);
            edges.due(b, 63 - cell, "count", 1);
        }
        edges.due(b, 64, "count", 0);
    }

    private static void freeNotNow() {
        edges.of(5, "NOT: it was not TOLD.");
        for (int cell = 0; cell < 64; cell++) {
            BurinLines b = new BurinLines();
            edges.due(b, NOT, "free", cell % 8, cell / 8);
            edges.due(b, 0, "tell", cell % 8, cell / 8, 0);
            edges.due(b, 1, "free", cell % 8, cell / 8);
            edges.due(b, NOT, "free", cell % 8, cell / 8);
        }
        BurinLines b = new BurinLines();
        edges.due(b, OUTSIDE, "tell", 1, 0, 8);
        edges.due(b, NOT, "free", 1, 0);
        edges.due(b, 0, "tell", 0, 0, 4);
        edges.due(b, 2, "even");
        edges.due(b, 1, "at", 1, 0, 1);
        edges.due(b, NOT, "free", 1, 0);
        edges.refusedOn(Plates.WHITE, NOT, "free", 0, 0);
        edges.refusedOn(Plates.WHITE, NOT, "free", 7, 7);
        edges.refusedOn(Plates.USED, NOT, "free", 7, 7);
        edges.refusedOn(Plates.USED, NOT, "free", 5, 5);
    }

    private static void freeOfNoCell() {
        edges.of(5, CELLS);
        edges.cells("free");
        edges.of(5, "UNKNOWN; NOT: it was not TOLD.");
        edges.refusedOn(Plates.WHITE, UNKNOWN, "free", 8, 7);
        edges.refusedOn(Plates.WHITE, UNKNOWN, "free", 0, -1);
    }

    // ---- promise 7

    private static void atBounds() {
        edges.of(7, "Of a CELL: 0 TONE, 1 TURN, 2 whether it is TOLD (1, 0).");
        BurinLines b = new BurinLines();
        b.tone(7, 0, 100);
        b.tell(7, 0, 7);
        edges.due(b, 100, "at", 7, 0, 0);
        edges.due(b, 7, "at", 7, 0, 1);
        edges.due(b, 1, "at", 7, 0, 2);
        b.free(7, 0);
        edges.due(b, 7, "at", 7, 0, 1);
        edges.due(b, 0, "at", 7, 0, 2);
        edges.due(b, 0, "at", 0, 7, 0);
        for (int what : new int[] {-1, 3, LOW, HIGH}) {
            edges.refused(OUTSIDE, "at", 3, 3, what);
        }
    }

    private static void atOfNoCell() {
        edges.of(7, CELLS);
        for (int what = 0; what < 3; what++) {
            edges.cells("at", what);
        }
        edges.of(7, "UNKNOWN; OUTSIDE.");
        edges.unknown("at", 7, 8, 3);
        edges.refused(UNKNOWN, "at", 8, 0, -1);
    }

    // ---- promise 8

    private static BurinLines block(int x, int y, int... turns) {
        BurinLines b = new BurinLines();
        b.tell(x, y, turns[0]);
        b.tell(x + 1, y, turns[1]);
        b.tell(x + 1, y + 1, turns[2]);
        b.tell(x, y + 1, turns[3]);
        return b;
    }

    private static void knotOfEachBlock() {
        edges.of(8, "KNOT of a block of four CELLS (x, y), (x + 1, y), (x + 1, y + 1), (x, y + 1), x and y 0 .. 6");
        for (int at = 0; at < 49; at++) {
            int x = at % 7;
            int y = at / 7;
            edges.due(block(x, y, 0, 2, 4, 6), 1, "knot", x, y);
            edges.due(block(x, y, 0, 6, 4, 2), -1, "knot", x, y);
        }
        BurinLines full = Plates.FULL.make();
        for (int at = 0; at < 49; at++) {
            edges.due(full, (at % 7 + at / 7) % 2 == 0 ? 1 : -1, "knot", at % 7, at / 7);
        }
    }

    private static void knotTold() {
        edges.of(8, "the TURN grows by what it takes, modulo 8, told as -3 .. 4");
        // 3, 3, 3 and -1 make 8, at each of the four places; so do -3, -3, -3 and 1 make -8.
        edges.due(block(2, 2, 0, 3, 6, 1), 1, "knot", 2, 2);
        edges.due(block(2, 2, 1, 0, 3, 6), 1, "knot", 2, 2);
        edges.due(block(2, 2, 6, 1, 0, 3), 1, "knot", 2, 2);
        edges.due(block(2, 2, 3, 6, 1, 0), 1, "knot", 2, 2);
        edges.due(block(2, 2, 0, 5, 2, 7), -1, "knot", 2, 2);
        edges.due(block(2, 2, 7, 0, 5, 2), -1, "knot", 2, 2);
        edges.due(block(2, 2, 2, 7, 0, 5), -1, "knot", 2, 2);
        edges.due(block(2, 2, 5, 2, 7, 0), -1, "knot", 2, 2);
        edges.due(block(2, 2, 0, 3, 6, 3), 0, "knot", 2, 2);
        edges.due(block(2, 2, 7, 0, 7, 0), 0, "knot", 2, 2);
        edges.due(block(2, 2, 7, 7, 7, 7), 0, "knot", 2, 2);
    }

    private static void knotTorn() {
        edges.of(8, "where that is 4, the block is TORN");
        // A growth of 4 at one place, and 4 or -4 over the three others.
        int[][] torn = {{0, 4, 5, 6}, {6, 0, 4, 5}, {5, 6, 0, 4}, {4, 5, 6, 0},
            {4, 0, 7, 6}, {6, 4, 0, 7}, {7, 6, 4, 0}, {0, 7, 6, 4},
            {0, 4, 0, 4}, {3, 7, 3, 3}, {1, 1, 5, 1}};
        for (int[] turns : torn) {
            edges.due(block(5, 6, turns), 2, "knot", 5, 6);
        }
        edges.of(8, "2: it is TORN.");
        BurinLines checkered = new BurinLines();
        for (int cell = 0; cell < 64; cell++) {
            checkered.tell(cell % 8, cell / 8, (cell % 8 + cell / 8) % 2 == 0 ? 7 : 3);
        }
        for (int at = 0; at < 49; at++) {
            edges.due(checkered, 2, "knot", at % 7, at / 7);
        }
    }

    private static int growth(int from, int to) {
        int[] told = {0, 1, 2, 3, 4, -3, -2, -1};
        return told[to >= from ? to - from : to - from + 8];
    }

    private static void knotOfAllTurns() {
        edges.of(8, "else the four together, by 8, are its KNOT (-1, 0, 1).");
        for (int turns = 0; turns < 4096; turns++) {
            int[] t = {turns % 8, turns / 8 % 8, turns / 64 % 8, turns / 512};
            int[] grows = {growth(t[0], t[1]), growth(t[1], t[2]), growth(t[2], t[3]), growth(t[3], t[0])};
            int together = 0;
            boolean torn = false;
            for (int one : grows) {
                together += one;
                torn |= one == 4;
            }
            int knot = together == 8 ? 1 : together == -8 ? -1 : 0;
            edges.due(block(6, 0, t), torn ? 2 : knot, "knot", 6, 0);
        }
    }

    private static void knotOfNoBlock() {
        edges.of(8, "UNKNOWN.");
        edges.unknown("knot", 6, 7);
        edges.unknown("knot", 7, 8);
        for (int x = 0; x < 7; x += 6) {
            for (int y = 0; y < 7; y += 6) {
                edges.due(new BurinLines(), 0, "knot", x, y);
            }
        }
        edges.refused(UNKNOWN, "knot", 7, 7);
        edges.refused(UNKNOWN, "knot", 7, 0);
        edges.refused(UNKNOWN, "knot", 0, 7);
    }
}
