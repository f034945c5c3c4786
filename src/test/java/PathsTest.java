/** Promises 14 to 19, with answers worked out by hand from the document. */
public final class PathsTest {
    private static final Check check = new Check();

    public static void main(String[] args) {
        rows();
        diagonals();
        mostPaths();
        widestAtAnEnd();
        orderOfRows();
        orderByEitherEnd();
        orderOfSingles();
        orderAsNear();
        orderOfLayers();
        refused();
        count();
        check.end();
    }

    /** STROKES alone, in LAYER 0, each with a WAY of its own that ties it to none. */
    private static BurinLines singles(int... cells) {
        BurinLines b = new BurinLines();
        for (int cell : cells) {
            b.tone(cell % 8, cell / 8, 50);
        }
        return b;
    }

    private static void path(BurinLines b, int layer, int k, int... want) {
        for (int what = 0; what < 4; what++) {
            check.due("path " + k + " of layer " + layer + ", " + what, b.path(layer, k, what), want[what]);
        }
    }

    private static void order(BurinLines b, int layer, int[] ks, int[] begins, int air) {
        for (int i = 0; i < ks.length; i++) {
            check.due("cut " + i, b.cut(layer, i), ks[i]);
            check.due("begin " + i, b.begin(layer, i), begins[i]);
        }
        check.due("cut behind the last", b.cut(layer, ks.length), -3);
        check.due("begin behind the last", b.begin(layer, ks.length), -3);
        check.due("cut -1", b.cut(layer, -1), -3);
        check.due("begin -1", b.begin(layer, -1), -3);
        check.due("air", b.air(layer), air);
    }

    private static void rows() {
        BurinLines b = new BurinLines();
        b.shade(1, 1, 6, 2, 50);
        b.tone(4, 1, 0);
        check.due("paths", b.paths(0), 3);
        path(b, 0, 0, 9, 11, 3, 5);
        path(b, 0, 1, 13, 14, 2, 5);
        path(b, 0, 2, 17, 22, 6, 5);
        b.tone(1, 2, 10);
        b.set(3, 1);
        path(b, 0, 2, 17, 22, 6, 5);
        b.tone(4, 2, 10);
        path(b, 0, 2, 17, 22, 6, 3);
        check.due("layer 1", b.paths(1), 0);
    }

    private static void diagonals() {
        BurinLines b = new BurinLines();
        for (int i = 0; i < 8; i++) {
            b.tone(7 - i, i, 100);
            b.tell(7 - i, i, 6 + i % 2);
        }
        check.due("paths of layer 0", b.paths(0), 1);
        path(b, 0, 0, 7, 56, 8, 6);
        check.due("paths of layer 1", b.paths(1), 8);
        path(b, 1, 0, 7, 7, 1, 4);
        path(b, 1, 7, 56, 56, 1, 4);
        b.tell(3, 4, 5);
        check.due("torn up by a WAY", b.paths(0), 3);
        path(b, 0, 0, 7, 28, 4, 6);
        path(b, 0, 1, 35, 35, 1, 6);
        path(b, 0, 2, 42, 56, 3, 6);
    }

    /** No STROKE has its own WAY before it or behind it. */
    private static void mostPaths() {
        BurinLines b = new BurinLines();
        b.shade(0, 0, 7, 7, 100);
        for (int cell = 0; cell < 64; cell++) {
            b.tell(cell % 8, cell / 8, 4 * ((cell % 8 + cell / 8) % 2));
        }
        for (int layer = 0; layer < 2; layer++) {
            check.due("64 paths", b.paths(layer), 64);
            path(b, layer, 0, 0, 0, 1, layer == 0 ? 6 : 4);
            path(b, layer, 63, 63, 63, 1, layer == 0 ? 6 : 4);
            check.due("path 64", b.path(layer, 64, 0), -2);
            boolean[] isCut = new boolean[64];
            for (int i = 0; i < 64; i++) {
                int k = b.cut(layer, i);
                check.holds("each is cut once", k >= 0 && k < 64 && !isCut[k]);
                isCut[k] = true;
            }
            check.due("cut 64", b.cut(layer, 64), -3);
            check.due("begin 64", b.begin(layer, 64), -3);
        }
    }

    private static void widestAtAnEnd() {
        BurinLines b = new BurinLines();
        b.shade(0, 7, 7, 7, 20);
        b.tone(7, 7, 60);
        path(b, 0, 0, 56, 63, 8, 6);
        b.tone(7, 7, 20);
        b.tone(0, 7, 60);
        path(b, 0, 0, 56, 63, 8, 6);
    }

    private static void orderOfRows() {
        BurinLines b = new BurinLines();
        b.shade(0, 0, 7, 0, 50);
        b.shade(0, 2, 7, 2, 50);
        order(b, 0, new int[] {0, 1}, new int[] {0, 23}, 2);
        b.shade(0, 0, 7, 0, 0);
        b.shade(0, 7, 7, 7, 50);
        order(b, 0, new int[] {0, 1}, new int[] {16, 63}, 7);
        BurinLines down = new BurinLines();
        for (int i = 0; i < 4; i++) {
            down.tone(4 - i, i, 50);
            down.tell(4 - i, i, 6);
        }
        order(down, 0, new int[] {0}, new int[] {25}, 3);
    }

    /** A PATH is as near as the nearer one of its ends, be it the first or the last. */
    private static void orderByEitherEnd() {
        BurinLines byLast = new BurinLines();
        byLast.tone(6, 0, 50);
        for (int i = 0; i < 5; i++) {
            byLast.tone(7 - i, 1 + i, 50);
            byLast.tell(7 - i, 1 + i, 7);
        }
        order(byLast, 0, new int[] {1, 0}, new int[] {43, 6}, 6);
        BurinLines byFirst = new BurinLines();
        byFirst.tone(6, 0, 50);
        byFirst.shade(2, 5, 7, 5, 50);
        order(byFirst, 0, new int[] {1, 0}, new int[] {42, 6}, 10);
        byFirst.tone(6, 0, 0);
        check.due("air without another call before it", byFirst.air(0), 5);
    }

    private static void orderOfSingles() {
        order(singles(3, 24), 0, new int[] {0, 1}, new int[] {3, 24}, 6);
        order(singles(63), 0, new int[] {0}, new int[] {63}, 7);
        order(singles(0), 0, new int[] {0}, new int[] {0}, 0);
        order(singles(7, 17, 60), 0, new int[] {1, 2, 0}, new int[] {17, 60, 7}, 14);
        order(singles(5, 36, 54), 0, new int[] {1, 2, 0}, new int[] {36, 54, 5}, 12);
    }

    private static void orderAsNear() {
        BurinLines b = new BurinLines();
        for (int y = 0; y < 5; y++) {
            b.tone(4, y, 50);
            b.tell(4, y, 4);
        }
        order(b, 0, new int[] {0}, new int[] {4}, 4);
        BurinLines far = new BurinLines();
        far.shade(2, 4, 4, 4, 50);
        order(far, 0, new int[] {0}, new int[] {34}, 4);
        far.tone(6, 4, 50);
        order(far, 0, new int[] {0, 1}, new int[] {34, 38}, 6);
    }

    private static void orderOfLayers() {
        BurinLines b = new BurinLines();
        b.shade(2, 0, 3, 3, 100);
        order(b, 0, new int[] {0, 1, 2, 3}, new int[] {2, 10, 18, 26}, 5);
        order(b, 1, new int[] {0, 1}, new int[] {2, 27}, 3);
        order(b, 0, new int[] {0, 1, 2, 3}, new int[] {2, 10, 18, 26}, 5);
    }

    private static void refused() {
        BurinLines b = singles(3, 24);
        for (int layer : new int[] {-1, 2}) {
            check.due("paths of layer " + layer, b.paths(layer), -2);
            check.due("path of layer " + layer, b.path(layer, 0, 9), -2);
            check.due("cut of layer " + layer, b.cut(layer, -1), -2);
            check.due("begin of layer " + layer, b.begin(layer, -1), -2);
            check.due("air of layer " + layer, b.air(layer), -2);
        }
        check.due("path -1", b.path(0, -1, 0), -2);
        check.due("path 2", b.path(0, 2, 0), -2);
        check.due("UNKNOWN before OUTSIDE", b.path(0, 2, 4), -2);
        check.due("what 4", b.path(0, 1, 4), -3);
        check.due("what -1", b.path(0, 1, -1), -3);
        check.due("no PATH in layer 1", b.path(1, 0, 0), -2);
        check.due("nothing to cut in layer 1", b.cut(1, 0), -3);
        check.due("nothing to begin in layer 1", b.begin(1, 0), -3);
        check.due("no AIR in layer 1", b.air(1), 0);
    }

    private static void count() {
        BurinLines b = new BurinLines();
        b.shade(0, 0, 3, 0, 5);
        b.shade(0, 1, 2, 1, 50);
        b.shade(0, 2, 1, 2, 100);
        check.due("CELLS with a TONE", b.count(0), 9);
        check.due("STROKES of layer 0", b.count(2), 5);
        check.due("STROKES of layer 1", b.count(3), 2);
        b.set(2, 6);
        check.due("by LEAST, layer 0", b.count(2), 2);
        check.due("by LEAST, layer 1", b.count(3), 0);
        b.tone(7, 7, 1);
        b.set(2, 1);
        b.tone(7, 6, 10);
        check.due("a TONE of 1 counts, and one without a STROKE", b.count(0), 11);
        check.due("a WIDTH of 1 counts", b.count(2), 6);
        check.due("none TOLD", b.count(1), 0);
        b.tell(0, 0, 0);
        b.tell(1, 0, 2);
        b.tell(1, 1, 4);
        check.due("three TOLD", b.count(1), 3);
        check.due("TORN is no KNOT", b.count(4), 0);
        b.tell(0, 1, 6);
        check.due("a KNOT of 1", b.count(4), 1);
        b.tell(6, 6, 0);
        b.tell(7, 6, 6);
        b.tell(7, 7, 4);
        b.tell(6, 7, 2);
        check.due("and one of -1", b.count(4), 2);
        b.free(6, 7);
        check.due("TOLD less one", b.count(1), 7);
        check.due("what 5", b.count(5), -3);
        check.due("what -1", b.count(-1), -3);
    }
}
