/** Promises 9 to 13: each sentence that names an edge, at that edge and one beyond it. */
public final class LinesEdgesTest {
    private static final int UNKNOWN = Edges.UNKNOWN, OUTSIDE = Edges.OUTSIDE;
    private static final int LOW = Edges.LOW, HIGH = Edges.HIGH;
    private static final int S = 0, CROSS = 1, LEAST = 2, SWELL = 3;
    private static final String CELLS = "THE PLATE has CELLS (x, y), x and y 0 ..";

    /** The WAY by TURN, written out: (1, 0), (1, 1), (0, 1), (-1, 1). */
    private static final int[] WAY_X = {1, 1, 1, 1, 0, 0, -1, -1};
    private static final int[] WAY_Y = {0, 0, 1, 1, 1, 1, 1, 1};
    private static final int[] DARK_WAY_X = {0, 0, -1, -1, 1, 1, 1, 1};
    private static final int[] DARK_WAY_Y = {1, 1, 1, 1, 0, 0, 1, 1};

    private static Edges edges;

    public static void main(String[] args) throws Exception {
        edges = new Edges();
        setSpacing();
        setCross();
        setLeast();
        setSwell();
        setIsThatWhichItWas();
        setOutside();

        wantedUpToCross();
        wantedCut();
        wantedLessThanLeast();
        wantedUnknown();

        widthOfNoStroke();
        widthByWay();
        widthByWayOfLayer1();
        widthOfTiedAlone();
        widthAboveTheOther();
        widthInARowOfEight();
        widthUnknown();

        madeOfBothTogether();
        madeByWidth();
        madeUnknown();

        errorOfEmptyAndFull();
        errorGreatestAndTogether();
        errorOutside();
        edges.end(9, 10, 11, 12, 13);
    }

    // ---- promise 9

    private static void bounds(int what, int first, int lowest, int highest) {
        BurinLines b = new BurinLines();
        edges.due(b, OUTSIDE, "set", what, lowest - 1);
        edges.due(b, OUTSIDE, "set", what, highest + 1);
        edges.due(b, first, "set", what, lowest);
        edges.due(b, lowest, "set", what, highest);
        int before = highest;
        for (int v = lowest; v <= highest; v++) {
            edges.due(b, before, "set", what, v);
            before = v;
        }
        for (int v : new int[] {lowest - 1, highest + 1, 0, -1, LOW, HIGH}) {
            edges.refused(OUTSIDE, "set", what, v);
        }
    }

    private static void setSpacing() {
        edges.of(9, "LINES are S parts apart (4 .. 40; 10 at first).");
        bounds(S, 10, 4, 40);
    }

    private static void setCross() {
        edges.of(9, "CROSS (10 .. 100; 60 at first)");
        bounds(CROSS, 60, 10, 100);
    }

    private static void setLeast() {
        edges.of(9, "LEAST (1 .. 10; 1 at first)");
        bounds(LEAST, 1, 1, 10);
    }

    private static void setSwell() {
        edges.of(9, "SWELL (1 .. 40; 40 at first)");
        bounds(SWELL, 40, 1, 40);
    }

    private static void setIsThatWhichItWas() {
        edges.of(9, "S (what 0), CROSS (1), LEAST (2), SWELL (3): that which it was.");
        BurinLines b = new BurinLines();
        int[] first = {10, 60, 1, 40};
        int[] next = {39, 99, 9, 2};
        for (int what = 0; what < 4; what++) {
            edges.due(b, first[what], "set", what, first[what]);
            edges.due(b, first[what], "set", what, next[what]);
        }
        for (int what = 0; what < 4; what++) {
            edges.due(b, next[what], "set", what, next[what]);
        }
        edges.due(new BurinLines(), 10, "set", S, 39);
    }

    private static void setOutside() {
        edges.of(9, "OUTSIDE.");
        for (int what : new int[] {-1, 4, LOW, HIGH}) {
            edges.refused(OUTSIDE, "set", what, 10);
            edges.refused(OUTSIDE, "set", what, 0);
            edges.refused(OUTSIDE, "set", what, HIGH);
        }
    }

    // ---- promise 10

    private static void wanted(int cross, int tone, int layer0, int layer1) {
        BurinLines b = new BurinLines();
        b.set(CROSS, cross);
        b.tone(7, 0, tone);
        edges.due(b, layer0, "wanted", 7, 0, 0);
        edges.due(b, layer1, "wanted", 7, 0, 1);
        edges.due(b, 0, "wanted", 0, 7, 0);
    }

    private static void wantedUpToCross() {
        edges.of(10, "TONE up to CROSS (10 .. 100; 60 at first) is for LAYER 0, what is above it for LAYER 1.");
        wanted(60, 0, 0, 0);
        wanted(60, 59, 5, 0);
        wanted(60, 60, 6, 0);
        wanted(60, 61, 6, 0);
        wanted(60, 69, 6, 0);
        wanted(60, 70, 6, 1);
        wanted(60, 100, 6, 4);
        wanted(10, 9, 0, 0);
        wanted(10, 10, 1, 0);
        wanted(10, 19, 1, 0);
        wanted(10, 20, 1, 1);
        wanted(10, 100, 1, 9);
        wanted(90, 99, 9, 0);
        wanted(90, 100, 9, 1);
        wanted(91, 100, 9, 0);
        wanted(100, 99, 9, 0);
        wanted(100, 100, 10, 0);
    }

    private static void wantedOf(int s, int tone, int width) {
        BurinLines b = new BurinLines();
        b.set(S, s);
        b.set(CROSS, 100);
        b.tone(0, 0, tone);
        edges.due(b, width, "wanted", 0, 0, 0);
    }

    private static void wantedCut() {
        edges.of(10, "The WIDTH wanted in a CELL of a LAYER: S times its TONE there, by 100, cut");
        int[][] at = {{4, 24, 0}, {4, 25, 1}, {4, 49, 1}, {4, 50, 2}, {4, 99, 3}, {4, 100, 4}, {10, 9, 0}, {10, 10, 1},
            {10, 99, 9}, {10, 100, 10}, {39, 2, 0}, {39, 3, 1}, {39, 100, 39}, {40, 2, 0}, {40, 3, 1}, {40, 99, 39}, {40, 100, 40}};
        for (int[] one : at) {
            wantedOf(one[0], one[1], one[2]);
        }
        for (int s = 4; s <= 40; s++) {
            int width = 0;
            for (int tone = 0; tone <= 100; tone++) {
                width += 100 * (width + 1) <= s * tone ? 1 : 0;
                wantedOf(s, tone, width);
            }
        }
    }

    private static void wantedLessThanLeast() {
        edges.of(10, "none (0), if it is less than LEAST (1 .. 10; 1 at first).");
        for (int least = 1; least <= 10; least++) {
            BurinLines b = new BurinLines();
            b.set(S, 40);
            b.set(LEAST, least);
            int enough = (5 * least + 1) / 2;
            b.set(CROSS, 100);
            b.tone(4, 4, enough);
            edges.due(b, least, "wanted", 4, 4, 0);
            b.tone(4, 4, enough - 1);
            edges.due(b, 0, "wanted", 4, 4, 0);
            b.set(CROSS, 10);
            b.tone(4, 4, 10 + enough);
            edges.due(b, least, "wanted", 4, 4, 1);
            b.tone(4, 4, 10 + enough - 1);
            edges.due(b, 0, "wanted", 4, 4, 1);
            edges.due(b, least <= 4 ? 4 : 0, "wanted", 4, 4, 0);
        }
    }

    /** The last LAYERS that there are, and the first that are not. */
    private static void layers(String name) {
        edges.due(new BurinLines(), 0, name, 0, 0, 0);
        edges.due(new BurinLines(), 0, name, 7, 7, 1);
        for (int layer : new int[] {-1, 2, LOW, HIGH}) {
            edges.refused(UNKNOWN, name, 3, 3, layer);
            edges.refused(UNKNOWN, name, 8, 3, layer);
        }
    }

    private static void wantedUnknown() {
        edges.of(10, CELLS);
        edges.cells("wanted", 0);
        edges.cells("wanted", 1);
        edges.of(10, "UNKNOWN.");
        layers("wanted");
    }

    // ---- promise 11

    private static void widthOfNoStroke() {
        edges.of(11, "WIDTH in a CELL of a LAYER; 0: there is no STROKE.");
        BurinLines b = new BurinLines();
        b.tone(5, 2, 9);
        edges.due(b, 0, "width", 5, 2, 0);
        b.tone(5, 2, 10);
        edges.due(b, 1, "width", 5, 2, 0);
        edges.due(b, 0, "width", 2, 5, 0);
        b.tone(5, 2, 69);
        edges.due(b, 6, "width", 5, 2, 0);
        edges.due(b, 0, "width", 5, 2, 1);
        b.tone(5, 2, 70);
        edges.due(b, 1, "width", 5, 2, 1);
        b.set(LEAST, 2);
        edges.due(b, 0, "width", 5, 2, 1);
        b.set(LEAST, 6);
        edges.due(b, 6, "width", 5, 2, 0);
        b.set(LEAST, 7);
        edges.due(b, 0, "width", 5, 2, 0);
        for (int cell = 0; cell < 64; cell++) {
            BurinLines full = Plates.FULL.make();
            edges.due(full, 6, "width", cell % 8, cell / 8, 0);
            edges.due(full, 4, "width", cell % 8, cell / 8, 1);
            edges.due(new BurinLines(), 0, "width", cell % 8, cell / 8, 0);
        }
    }

    /** Two STROKES of a LAYER alone, 1 and 6 wanted: by SWELL 1 the second has 2 if they are TIED. */
    private static void two(int layer, int narrow, int narrowTurn, int wide, int wideTurn, boolean tied) {
        BurinLines b = new BurinLines();
        int below = layer == 0 ? 0 : 10;
        b.set(CROSS, layer == 0 ? 100 : 10);
        b.set(SWELL, 1);
        b.tone(narrow % 8, narrow / 8, below + 10);
        b.tell(narrow % 8, narrow / 8, narrowTurn);
        b.tone(wide % 8, wide / 8, below + 60);
        b.tell(wide % 8, wide / 8, wideTurn);
        edges.due(b, 1, "width", narrow % 8, narrow / 8, layer);
        edges.due(b, tied ? 2 : 6, "width", wide % 8, wide / 8, layer);
    }

    /** All TURNS of two STROKES beside one another, in all eight directions. */
    private static void ways(int layer, int[] wayX, int[] wayY) {
        for (int turns = 0; turns < 64; turns++) {
            int one = turns % 8;
            int other = turns / 8;
            boolean sameWay = wayX[one] == wayX[other] && wayY[one] == wayY[other];
            for (int beside : new int[] {18, 19, 20, 26, 28, 34, 35, 36}) {
                int dx = beside % 8 - 3;
                int dy = beside / 8 - 3;
                boolean on = dx == wayX[one] && dy == wayY[one];
                boolean back = dx == -wayX[one] && dy == -wayY[one];
                two(layer, 27, one, beside, other, sameWay && (on || back));
            }
        }
    }

    private static void widthByWay() {
        edges.of(11, "Its WAY is (1, 0), (1, 1), (0, 1), (-1, 1) for TURN by 2, cut, 0, 1, 2, 3");
        ways(0, WAY_X, WAY_Y);
    }

    private static void widthByWayOfLayer1() {
        edges.of(11, "in LAYER 1 for TURN and 4, modulo 8, so.");
        ways(1, DARK_WAY_X, DARK_WAY_Y);
    }

    /** All pairs of CELLS: none is TIED to another over the plate's edge, or further off. */
    private static void widthOfTiedAlone() {
        edges.of(11, "STROKES of a LAYER are TIED, if the one lies one WAY on from the other and both have that WAY.");
        for (int turn = 0; turn < 8; turn += 2) {
            for (int narrow = 0; narrow < 64; narrow++) {
                for (int wide = 0; wide < 64; wide++) {
                    int dx = wide % 8 - narrow % 8;
                    int dy = wide / 8 - narrow / 8;
                    boolean on = dx == WAY_X[turn] && dy == WAY_Y[turn];
                    boolean back = dx == -WAY_X[turn] && dy == -WAY_Y[turn];
                    if (wide != narrow) {
                        two(0, narrow, turn, wide, turn, on || back);
                    }
                }
            }
        }
        BurinLines gap = new BurinLines();
        gap.set(SWELL, 1);
        gap.tone(2, 0, 10);
        gap.tone(3, 0, 9);
        gap.tone(4, 0, 60);
        edges.due(gap, 6, "width", 4, 0, 0);
        gap.tone(3, 0, 10);
        edges.due(gap, 2, "width", 4, 0, 0);
    }

    /** Two TIED STROKES with 1 and wanted; the tone for a WIDTH of S 40 is two and a half of it. */
    private static void above(int swell, int wanted, int width) {
        for (int narrow = 0; narrow < 2; narrow++) {
            BurinLines b = new BurinLines();
            b.set(S, 40);
            b.set(CROSS, 100);
            b.set(SWELL, swell);
            b.tone(narrow, 7, 3);
            b.tone(1 - narrow, 7, (5 * wanted + 1) / 2);
            edges.due(b, wanted, "wanted", 1 - narrow, 7, 0);
            edges.due(b, 1, "width", narrow, 7, 0);
            edges.due(b, width, "width", 1 - narrow, 7, 0);
        }
    }

    private static void widthAboveTheOther() {
        edges.of(11, "none of two TIED ones is more than SWELL (1 .. 40; 40 at first) above the other.");
        above(1, 1, 1);
        above(1, 2, 2);
        above(1, 3, 2);
        above(1, 40, 2);
        above(2, 3, 3);
        above(2, 4, 3);
        above(38, 39, 39);
        above(38, 40, 39);
        above(39, 40, 40);
        above(40, 40, 40);
    }

    /** Eight STROKES in a row: across, down, and on both long diagonals, by both TURNS of that WAY. */
    private static void eight(int layer, int swell, int[] wanted, int[] widths) {
        for (int turn = 0; turn < 8; turn++) {
            int dx = layer == 0 ? WAY_X[turn] : DARK_WAY_X[turn];
            int dy = layer == 0 ? WAY_Y[turn] : DARK_WAY_Y[turn];
            int x = dx == 1 ? 0 : 7;
            int y = dy == 1 ? 0 : 7;
            BurinLines b = new BurinLines();
            b.set(S, 40);
            b.set(CROSS, layer == 0 ? 100 : 10);
            b.set(SWELL, swell);
            for (int i = 0; i < 8; i++) {
                b.tone(x + i * dx, y + i * dy, (layer == 0 ? 0 : 10) + (5 * wanted[i] + 1) / 2);
                b.tell(x + i * dx, y + i * dy, turn);
            }
            for (int i = 0; i < 8; i++) {
                edges.due(b, wanted[i], "wanted", x + i * dx, y + i * dy, layer);
                edges.due(b, widths[i], "width", x + i * dx, y + i * dy, layer);
            }
        }
    }

    private static void widthInARowOfEight() {
        edges.of(11, "WIDTH of a STROKE: the greatest for which none is above that wanted");
        int[] highInside = {1, 36, 36, 36, 36, 36, 36, 1};
        for (int layer = 0; layer < 2; layer++) {
            eight(layer, 1, highInside, new int[] {1, 2, 3, 4, 4, 3, 2, 1});
            eight(layer, 12, highInside, new int[] {1, 13, 25, 36, 36, 25, 13, 1});
            eight(layer, 34, highInside, new int[] {1, 35, 36, 36, 36, 36, 35, 1});
            eight(layer, 35, highInside, highInside);
            eight(layer, 5, new int[] {36, 36, 36, 36, 36, 36, 36, 1}, new int[] {36, 31, 26, 21, 16, 11, 6, 1});
            eight(layer, 4, new int[] {1, 36, 36, 36, 36, 36, 36, 36}, new int[] {1, 5, 9, 13, 17, 21, 25, 29});
            eight(layer, 6, new int[] {20, 20, 20, 3, 20, 20, 20, 20}, new int[] {20, 15, 9, 3, 9, 15, 20, 20});
            eight(layer, 3, new int[] {7, 2, 9, 1, 8, 8, 3, 6}, new int[] {5, 2, 4, 1, 4, 6, 3, 6});
        }
    }

    private static void widthUnknown() {
        edges.of(11, CELLS);
        edges.cells("width", 0);
        edges.cells("width", 1);
        edges.of(11, "UNKNOWN.");
        layers("width");
    }

    // ---- promise 12

    private static void made(int s, int cross, int tone, int made) {
        BurinLines b = new BurinLines();
        b.set(S, s);
        b.set(CROSS, cross);
        b.tone(0, 7, tone);
        edges.due(b, made, "made", 0, 7);
        edges.due(b, 0, "made", 7, 0);
    }

    private static void madeOfBothTogether() {
        edges.of(12, "MADE in a CELL: 100 times its WIDTHS of both LAYERS together, by S, cut.");
        made(10, 60, 0, 0);
        made(10, 60, 9, 0);
        made(10, 60, 10, 10);
        made(10, 60, 69, 60);
        made(10, 60, 70, 70);
        made(10, 60, 100, 100);
        // 3 and 3 of 7: 85 together, but 84 if each were cut for itself.
        made(7, 50, 50, 42);
        made(7, 50, 100, 85);
        made(4, 100, 24, 0);
        made(4, 100, 25, 25);
        made(4, 10, 100, 75);
        made(40, 10, 100, 100);
        made(40, 100, 100, 100);
        made(39, 100, 99, 97);
        BurinLines full = Plates.FULL.make();
        for (int cell = 0; cell < 64; cell++) {
            edges.due(full, 100, "made", cell % 8, cell / 8);
        }
        full.set(LEAST, 5);
        edges.due(full, 60, "made", 7, 7);
        full.set(LEAST, 7);
        edges.due(full, 0, "made", 7, 7);
    }

    private static void madeByWidth() {
        edges.of(12, "100 times its WIDTHS of both LAYERS together");
        BurinLines b = new BurinLines();
        b.set(SWELL, 1);
        b.tone(4, 4, 100);
        edges.due(b, 100, "made", 4, 4);
        b.tone(3, 4, 10);
        edges.due(b, 60, "made", 4, 4);
        b.tone(4, 3, 70);
        edges.due(b, 40, "made", 4, 4);
        edges.due(b, 70, "made", 4, 3);
    }

    private static void madeUnknown() {
        edges.of(12, CELLS);
        edges.cells("made");
        edges.of(12, "UNKNOWN.");
        edges.refused(UNKNOWN, "made", 8, 7);
    }

    // ---- promise 13

    private static void errorOfEmptyAndFull() {
        edges.of(13, "ERROR: TONE less that.");
        edges.due(new BurinLines(), 0, "error", 0);
        edges.due(new BurinLines(), 0, "error", 1);
        BurinLines full = Plates.FULL.make();
        edges.due(full, 0, "error", 0);
        edges.due(full, 0, "error", 1);
        full.set(LEAST, 6);
        edges.due(full, 40, "error", 0);
        edges.due(full, 2560, "error", 1);
        full.set(LEAST, 7);
        edges.due(full, 100, "error", 0);
        edges.due(full, 6400, "error", 1);
    }

    private static void errorGreatestAndTogether() {
        edges.of(13, "ERRORS of all CELLS, each without its sign: the greatest (what 0), all together (1).");
        BurinLines all = new BurinLines();
        for (int cell = 0; cell < 64; cell++) {
            BurinLines one = new BurinLines();
            one.tone(cell % 8, cell / 8, 19);
            edges.due(one, 9, "error", 0);
            edges.due(one, 9, "error", 1);
            all.tone(cell % 8, cell / 8, cell == 40 ? 9 : 11);
            edges.due(all, cell < 40 ? 1 : 9, "error", 0);
            edges.due(all, cell + (cell < 40 ? 1 : 9), "error", 1);
        }
    }

    private static void errorOutside() {
        edges.of(13, "OUTSIDE.");
        for (int what : new int[] {-1, 2, LOW, HIGH}) {
            edges.refused(OUTSIDE, "error", what);
        }
    }
}
