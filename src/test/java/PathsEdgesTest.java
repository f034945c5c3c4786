/** Promises 14 to 19: each sentence that names an edge, at that edge and one beyond it. */
public final class PathsEdgesTest {
    private static final int UNKNOWN = Edges.UNKNOWN, OUTSIDE = Edges.OUTSIDE;
    private static final int LOW = Edges.LOW, HIGH = Edges.HIGH;
    private static final int CROSS = 1, LEAST = 2, SWELL = 3;

    private static Edges edges;

    public static void main(String[] args) throws Exception {
        edges = new Edges();
        pathsOfEmptyAndFull();
        pathsAsLongAsCanBe();
        pathsUnknown();

        pathOfOneAndOfEight();
        pathByNumber();
        pathGreatestWidth();
        pathUnknown();
        pathOutside();

        cutAtFirst();
        cutNearest();
        cutLeastNumber();
        cutByEitherEnd();
        cutOutside();

        beginAtNearerEnd();
        beginWhereTheToolIs();
        beginOutside();

        airBetween();
        airUnknown();

        countTones();
        countTold();
        countStrokes();
        countKnots();
        countOutside();
        edges.end(14, 15, 16, 17, 18, 19);
    }

    /** STROKES of LAYER 0 alone, of WIDTH 5 and TURN 0. */
    private static BurinLines strokes(int... cells) {
        BurinLines b = new BurinLines();
        for (int cell : cells) {
            b.tone(cell % 8, cell / 8, 50);
        }
        return b;
    }

    private static void addRow(BurinLines b, int x, int y, int dx, int dy, int turn, int length) {
        for (int i = 0; i < length; i++) {
            b.tone(x + i * dx, y + i * dy, 50);
            b.tell(x + i * dx, y + i * dy, turn);
        }
    }

    /** A plate that is full of one TONE and one TURN. */
    private static BurinLines full(int tone, int turn) {
        BurinLines b = Plates.allTold(turn);
        b.shade(0, 0, 7, 7, tone);
        return b;
    }

    // ---- promise 14

    private static void pathsOfEmptyAndFull() {
        edges.of(14, "How many PATHS.");
        for (int layer = 0; layer < 2; layer++) {
            edges.due(new BurinLines(), 0, "paths", layer);
            edges.due(Plates.FULL.make(), 64, "paths", layer);
        }
        for (int cell = 0; cell < 64; cell++) {
            BurinLines b = strokes(cell);
            edges.due(b, 1, "paths", 0);
            edges.due(b, 0, "paths", 1);
        }
        int[] light = {8, 8, 15, 15, 8, 8, 15, 15};
        for (int turn = 0; turn < 8; turn++) {
            BurinLines b = full(100, turn);
            edges.due(b, light[turn], "paths", 0);
            edges.due(b, light[turn], "paths", 1);
            b.set(CROSS, 100);
            edges.due(b, light[turn], "paths", 0);
            edges.due(b, 0, "paths", 1);
        }
    }

    private static void pathsAsLongAsCanBe() {
        edges.of(14, "PATHS of a LAYER are rows of STROKES TIED one to the next, as long as can be");
        BurinLines b = strokes(0, 1, 2, 3, 4, 5, 6, 7);
        edges.due(b, 1, "paths", 0);
        b.tone(0, 1, 50);
        edges.due(b, 2, "paths", 0);
        b.tone(0, 1, 0);
        for (int x = 0; x < 8; x++) {
            b.tone(x, 0, 9);
            edges.due(b, x % 7 == 0 ? 1 : 2, "paths", 0);
            b.tone(x, 0, 10);
            edges.due(b, 1, "paths", 0);
            b.tell(x, 0, 2);
            edges.due(b, x % 7 == 0 ? 2 : 3, "paths", 0);
            b.tell(x, 0, 1);
            edges.due(b, 1, "paths", 0);
        }
    }

    private static void pathsUnknown() {
        edges.of(14, "UNKNOWN.");
        for (int layer : new int[] {-1, 2, LOW, HIGH}) {
            edges.refused(UNKNOWN, "paths", layer);
        }
    }

    // ---- promise 15

    private static void path(BurinLines b, int layer, int k, int... want) {
        for (int what = 0; what < 4; what++) {
            edges.due(b, want[what], "path", layer, k, what);
        }
    }

    private static void pathOfOneAndOfEight() {
        edges.of(15, "Of a PATH: 0 its first CELL (8 y + x), 1 its last one, 2 how many STROKES, 3 its greatest WIDTH.");
        for (int cell = 0; cell < 64; cell++) {
            path(strokes(cell), 0, 0, cell, cell, 1, 5);
            path(Plates.FULL.make(), 0, cell, cell, cell, 1, 6);
            path(Plates.FULL.make(), 1, cell, cell, cell, 1, 4);
        }
        for (int i = 0; i < 8; i++) {
            path(full(100, 0), 0, i, 8 * i, 8 * i + 7, 8, 6);
            path(full(100, 5), 0, i, i, 56 + i, 8, 6);
            path(full(100, 4), 1, i, 8 * i, 8 * i + 7, 8, 4);
            path(full(100, 1), 1, i, i, 56 + i, 8, 4);
        }
    }

    /** Diagonals are of 1 to 8 STROKES, and begin in the upper row or at the side that they leave. */
    private static void pathByNumber() {
        edges.of(15, "from the first one its WAY on; numbered by their first CELLS (8 y + x).");
        BurinLines right = full(100, 2);
        BurinLines left = full(100, 7);
        for (int i = 0; i < 8; i++) {
            path(right, 0, i, i, i + 9 * (7 - i), 8 - i, 6);
            path(right, 1, i, i, i + 7 * i, i + 1, 4);
            path(left, 0, i, i, i + 7 * i, i + 1, 6);
            path(left, 1, i, i, i + 9 * (7 - i), 8 - i, 4);
        }
        for (int i = 1; i < 8; i++) {
            path(right, 0, 7 + i, 8 * i, 8 * i + 9 * (7 - i), 8 - i, 6);
            path(right, 1, 7 + i, 8 * i + 7, 8 * i + 7 + 7 * (7 - i), 8 - i, 4);
            path(left, 0, 7 + i, 8 * i + 7, 8 * i + 7 + 7 * (7 - i), 8 - i, 6);
            path(left, 1, 7 + i, 8 * i, 8 * i + 9 * (7 - i), 8 - i, 4);
        }
    }

    private static void pathGreatestWidth() {
        edges.of(15, "3 its greatest WIDTH.");
        for (int x = 0; x < 8; x++) {
            BurinLines b = new BurinLines();
            b.shade(0, 7, 7, 7, 20);
            b.tone(x, 7, 60);
            path(b, 0, 0, 56, 63, 8, 6);
            b.set(SWELL, 1);
            path(b, 0, 0, 56, 63, 8, 3);
        }
    }

    private static void pathUnknown() {
        edges.of(15, "UNKNOWN; OUTSIDE.");
        for (int layer : new int[] {-1, 2, LOW, HIGH}) {
            edges.refused(UNKNOWN, "path", layer, 0, 0);
            edges.refused(UNKNOWN, "path", layer, 0, 4);
            edges.refused(UNKNOWN, "path", layer, -1, -1);
        }
        for (int layer = 0; layer < 2; layer++) {
            for (Plates plate : Plates.values()) {
                int paths = plate.make().paths(layer);
                for (int k : new int[] {-1, paths, paths + 1, 64, LOW, HIGH}) {
                    edges.refusedOn(plate, UNKNOWN, "path", layer, k, 0);
                    edges.refusedOn(plate, UNKNOWN, "path", layer, k, 4);
                    edges.refusedOn(plate, UNKNOWN, "path", layer, k, -1);
                }
                for (int k = 0; k < paths; k++) {
                    edges.holds("path " + k + " is there", plate.make().path(layer, k, 0) >= k);
                }
            }
        }
    }

    private static void pathOutside() {
        edges.of(15, "OUTSIDE.");
        for (int what : new int[] {-1, 4, LOW, HIGH}) {
            edges.refusedOn(Plates.USED, OUTSIDE, "path", 0, 0, what);
            edges.refusedOn(Plates.FULL, OUTSIDE, "path", 0, 0, what);
            edges.refusedOn(Plates.FULL, OUTSIDE, "path", 1, 63, what);
            edges.refusedOn(Plates.WHITE, UNKNOWN, "path", 0, 0, what);
        }
    }

    // ---- promises 16 and 17

    private static void order(BurinLines b, int layer, int[] cut, int[] begin) {
        for (int i = 0; i < cut.length; i++) {
            edges.due(b, cut[i], "cut", layer, i);
            edges.due(b, begin[i], "begin", layer, i);
        }
        edges.due(b, OUTSIDE, "cut", layer, cut.length);
        edges.due(b, OUTSIDE, "begin", layer, cut.length);
    }

    private static void cutAtFirst() {
        edges.of(16, "the tool is at CELL (0, 0) first");
        order(strokes(0), 0, new int[] {0}, new int[] {0});
        order(strokes(63), 0, new int[] {0}, new int[] {63});
        order(strokes(7, 57), 0, new int[] {0, 1}, new int[] {7, 57});
        order(strokes(6, 56), 0, new int[] {0, 1}, new int[] {6, 56});
        order(strokes(7, 48), 0, new int[] {1, 0}, new int[] {48, 7});
        // The other LAYER begins at (0, 0) again, wherever the tool was.
        BurinLines both = new BurinLines();
        both.set(CROSS, 50);
        both.tone(1, 0, 100);
        both.tone(7, 7, 100);
        order(both, 0, new int[] {0, 1}, new int[] {1, 63});
        order(both, 1, new int[] {0, 1}, new int[] {1, 63});
        order(both, 0, new int[] {0, 1}, new int[] {1, 63});
    }

    private static void cutNearest() {
        edges.of(16, "nearest (the greater one of how far x and y are apart)");
        // Told by both together, or as the crow flies, (4, 0) would be nearer than (3, 3).
        order(strokes(4, 27), 0, new int[] {1, 0}, new int[] {27, 4});
        order(strokes(3, 27), 0, new int[] {0, 1}, new int[] {3, 27});
        // Told by x alone (2, 5) would be nearer than (3, 3), told by y alone (5, 2).
        order(strokes(21, 27), 0, new int[] {1, 0}, new int[] {27, 21});
        order(strokes(27, 42), 0, new int[] {0, 1}, new int[] {27, 42});
        // From (4, 4) one lies up and to the right, the other one down and to the left.
        order(strokes(7, 36, 57), 0, new int[] {1, 2, 0}, new int[] {36, 57, 7});
        order(strokes(15, 36, 56), 0, new int[] {1, 0, 2}, new int[] {36, 15, 56});
    }

    private static void cutLeastNumber() {
        edges.of(16, "of several the one with the least number");
        order(strokes(5, 13, 21, 29, 37, 45), 0, new int[] {0, 1, 2, 3, 4, 5}, new int[] {5, 13, 21, 29, 37, 45});
        order(strokes(3, 24, 27), 0, new int[] {0, 1, 2}, new int[] {3, 24, 27});
        // From (3, 3) the three others are as near as one another.
        order(strokes(27, 29, 41, 45), 0, new int[] {0, 1, 3, 2}, new int[] {27, 29, 45, 41});
        // A PATH whose last end is as near as the first end of another.
        BurinLines b = strokes(24);
        addRow(b, 5, 1, -1, 1, 6, 3);
        order(b, 0, new int[] {0, 1}, new int[] {27, 24});
    }

    private static void cutByEitherEnd() {
        edges.of(16, "next comes the PATH of those not cut yet one end of which is nearest");
        BurinLines byLast = strokes(6);
        addRow(byLast, 7, 1, -1, 1, 7, 5);
        order(byLast, 0, new int[] {1, 0}, new int[] {43, 6});
        BurinLines byFirst = strokes(6, 42, 43, 44, 45, 46, 47);
        order(byFirst, 0, new int[] {1, 0}, new int[] {42, 6});
        // What lies between the ends of a PATH does not count: (3, 3) is in the midst of one.
        BurinLines midst = strokes(39);
        addRow(midst, 6, 0, -1, 1, 6, 7);
        midst.tone(5, 5, 50);
        order(midst, 0, new int[] {2, 1, 0}, new int[] {45, 39, 6});
    }

    private static void none(String name) {
        for (int layer : new int[] {-1, 2, LOW, HIGH}) {
            edges.refused(UNKNOWN, name, layer, 0);
            edges.refused(UNKNOWN, name, layer, -1);
            edges.refused(UNKNOWN, name, layer, 64);
        }
        for (int layer = 0; layer < 2; layer++) {
            for (Plates plate : Plates.values()) {
                int paths = plate.make().paths(layer);
                for (int i : new int[] {-1, paths, paths + 1, 64, LOW, HIGH}) {
                    edges.refusedOn(plate, OUTSIDE, name, layer, i);
                }
                for (int i = 0; i < paths; i++) {
                    edges.holds(name + " has an i of " + i, Call.of(name, layer, i).on(plate.make()) >= 0);
                }
            }
        }
        edges.due(new BurinLines(), OUTSIDE, name, 0, 0);
        edges.due(strokes(9), OUTSIDE, name, 0, 1);
        edges.due(strokes(9), OUTSIDE, name, 1, 0);
    }

    private static void cutOutside() {
        edges.of(16, "UNKNOWN; OUTSIDE: i: there is none such.");
        none("cut");
        BurinLines full = Plates.FULL.make();
        boolean[] isCut = new boolean[64];
        for (int i = 0; i < 64; i++) {
            int k = full.cut(0, i);
            edges.holds("each PATH is cut once, " + k, k >= 0 && k < 64 && !isCut[k]);
            isCut[k] = true;
        }
    }

    private static void beginAtNearerEnd() {
        edges.of(17, "it is cut from its nearer end (as near: from its first one)");
        BurinLines asNear = new BurinLines();
        addRow(asNear, 4, 0, 0, 1, 4, 5);
        order(asNear, 0, new int[] {0}, new int[] {4});
        BurinLines firstNearer = new BurinLines();
        addRow(firstNearer, 4, 0, 0, 1, 4, 6);
        order(firstNearer, 0, new int[] {0}, new int[] {4});
        BurinLines lastNearer = new BurinLines();
        addRow(lastNearer, 5, 0, -1, 1, 6, 5);
        order(lastNearer, 0, new int[] {0}, new int[] {33});
        BurinLines both = new BurinLines();
        addRow(both, 5, 0, -1, 1, 6, 6);
        order(both, 0, new int[] {0}, new int[] {5});
    }

    private static void beginWhereTheToolIs() {
        edges.of(17, "to the other one, where the tool is then.");
        BurinLines b = full(60, 0);
        int[] numbers = {0, 1, 2, 3, 4, 5, 6, 7};
        order(b, 0, numbers, new int[] {0, 15, 16, 31, 32, 47, 48, 63});
        order(full(60, 4), 0, numbers, new int[] {0, 57, 2, 59, 4, 61, 6, 63});
        // Cut from its last one, at (2, 4), the PATH leaves the tool at its first one, (5, 1).
        BurinLines back = strokes(7, 50);
        addRow(back, 5, 1, -1, 1, 6, 4);
        order(back, 0, new int[] {1, 0, 2}, new int[] {34, 7, 50});
    }

    private static void beginOutside() {
        edges.of(17, "UNKNOWN; OUTSIDE: likewise.");
        none("begin");
    }

    // ---- promise 18

    private static void airBetween() {
        edges.of(18, "AIR: how far it goes between, together.");
        edges.due(new BurinLines(), 0, "air", 0);
        edges.due(new BurinLines(), 0, "air", 1);
        for (int cell = 0; cell < 64; cell++) {
            edges.due(strokes(cell), Math.max(cell % 8, cell / 8), "air", 0);
            edges.due(strokes(cell), 0, "air", 1);
        }
        edges.due(strokes(0, 1, 2, 3, 4, 5, 6, 7), 0, "air", 0);
        edges.due(strokes(0, 1, 2, 3, 5, 6, 7), 2, "air", 0);
        edges.due(strokes(0, 63), 7, "air", 0);
        edges.due(strokes(7, 56), 14, "air", 0);
        edges.due(full(60, 0), 7, "air", 0);
        edges.due(full(60, 4), 7, "air", 0);
        edges.due(full(100, 0), 7, "air", 1);
    }

    private static void airUnknown() {
        edges.of(18, "UNKNOWN.");
        for (int layer : new int[] {-1, 2, LOW, HIGH}) {
            edges.refused(UNKNOWN, "air", layer);
        }
    }

    // ---- promise 19

    private static void countTones() {
        edges.of(19, "0 CELLS with a TONE above 0");
        BurinLines b = new BurinLines();
        edges.due(b, 0, "count", 0);
        for (int cell = 0; cell < 64; cell++) {
            b.tone(cell % 8, cell / 8, 1);
            edges.due(b, cell + 1, "count", 0);
        }
        b.tone(7, 7, 0);
        edges.due(b, 63, "count", 0);
        b.shade(0, 0, 7, 7, 100);
        edges.due(b, 64, "count", 0);
        b.shade(0, 0, 7, 7, 0);
        edges.due(b, 0, "count", 0);
    }

    private static void countTold() {
        edges.of(19, "1 TOLD ones");
        BurinLines b = new BurinLines();
        edges.due(b, 0, "count", 1);
        for (int cell = 0; cell < 64; cell++) {
            b.tell(cell % 8, cell / 8, 0);
            edges.due(b, cell + 1, "count", 1);
        }
        b.tell(0, 0, 7);
        edges.due(b, 64, "count", 1);
        for (int cell = 0; cell < 64; cell++) {
            b.free(cell % 8, cell / 8);
            edges.due(b, 63 - cell, "count", 1);
        }
    }

    private static void countStrokes() {
        edges.of(19, "2 STROKES of LAYER 0, 3 of LAYER 1");
        BurinLines b = new BurinLines();
        int[][] at = {{0, 0, 0}, {9, 0, 0}, {10, 64, 0}, {60, 64, 0}, {69, 64, 0}, {70, 64, 64}, {100, 64, 64}};
        for (int[] one : at) {
            b.shade(0, 0, 7, 7, one[0]);
            edges.due(b, one[1], "count", 2);
            edges.due(b, one[2], "count", 3);
        }
        int[][] byLeast = {{4, 64, 64}, {5, 64, 0}, {6, 64, 0}, {7, 0, 0}, {10, 0, 0}};
        for (int[] one : byLeast) {
            b.set(LEAST, one[0]);
            edges.due(b, one[1], "count", 2);
            edges.due(b, one[2], "count", 3);
        }
        for (int cell = 0; cell < 64; cell++) {
            BurinLines one = new BurinLines();
            one.tone(cell % 8, cell / 8, 70);
            edges.due(one, 1, "count", 2);
            edges.due(one, 1, "count", 3);
        }
    }

    private static void countKnots() {
        edges.of(19, "4 blocks with a KNOT other than 0 that are not TORN.");
        edges.due(new BurinLines(), 0, "count", 4);
        edges.due(Plates.FULL.make(), 49, "count", 4);
        BurinLines torn = new BurinLines();
        for (int cell = 0; cell < 64; cell++) {
            torn.tell(cell % 8, cell / 8, (cell % 8 + cell / 8) % 2 * 4);
        }
        edges.due(torn, 0, "count", 4);
        BurinLines b = new BurinLines();
        int[] x = {0, 1, 1, 0};
        int[] y = {0, 0, 1, 1};
        for (int i = 0; i < 4; i++) {
            b.tell(x[i], y[i], 2 * i);
            b.tell(6 + x[i], 6 + y[i], (8 - 2 * i) % 8);
        }
        edges.due(b, 1, "knot", 0, 0);
        edges.due(b, -1, "knot", 6, 6);
        edges.due(b, 2, "knot", 1, 1);
        edges.due(b, 2, "count", 4);
        b.tell(0, 1, 0);
        edges.due(b, 2, "knot", 0, 0);
        edges.due(b, 1, "count", 4);
    }

    private static void countOutside() {
        edges.of(19, "OUTSIDE.");
        for (int what : new int[] {-1, 5, LOW, HIGH}) {
            edges.refused(OUTSIDE, "count", what);
        }
        int[] most = {64, 64, 64, 64, 49};
        for (int what = 0; what < 5; what++) {
            edges.due(new BurinLines(), 0, "count", what);
            edges.due(Plates.FULL.make(), most[what], "count", what);
        }
    }
}
