/** Promise 6: each sentence that names an edge of what is EVENED, at that edge and one beyond it. */
public final class EvenEdgesTest {
    /** Needs 21 goings through, 20 and 19, the last of which changes nothing; 1: the CELL stays TOLD. */
    private static final String TOLD = "0000111010000011101001010010011000110110001100010000000010110110";
    private static final String BY_21 = "6671332066013457132235423323215344253412560222114501111123232242";
    private static final String BY_20 = "6601332066013457132235423323215344253412560222114501112223232243";
    private static final String BY_19 = "6701332066013457132235423323215344253412560222114501122223232243";
    private static final String AT_LAST = "7012332060123457112235422223215322253412220222112222222222232243";

    private static Edges edges;

    public static void main(String[] args) throws Exception {
        edges = new Edges();
        apart();
        besideNoOther();
        besideEachOne();
        ofSeveralTheLeast();
        fromTheLeft();
        notTold();
        twentyTimesAtMost();
        howManyGoings();
        edges.end(6);
    }

    /** All but one CELL TOLD as 0, but for those beside it; it is free and has the TURN own. */
    private static BurinLines corner(int own, int right, int below) {
        BurinLines b = Plates.allTold(0);
        b.tell(0, 0, own);
        b.free(0, 0);
        b.tell(1, 0, right);
        b.tell(0, 1, below);
        return b;
    }

    private static void cornerBecomes(int want, int own, int right, int below) {
        BurinLines b = corner(own, right, below);
        edges.due(b, want == own ? 1 : 2, "even");
        edges.due(b, want, "at", 0, 0, 1);
        edges.due(b, right, "at", 1, 0, 1);
        edges.due(b, below, "at", 0, 1, 1);
        edges.due(b, 0, "at", 0, 0, 2);
        edges.due(b, 63, "count", 1);
        edges.due(b, 1, "even");
    }

    private static int squares(int turn, int a, int b) {
        int[] squared = {0, 1, 4, 9, 16, 9, 4, 1};
        return squared[(turn - a + 8) % 8] + squared[(turn - b + 8) % 8];
    }

    private static void apart() {
        edges.of(6, "APART are two TURNS by the lesser of how far they are and 8 less that.");
        cornerBecomes(0, 4, 7, 1);
        cornerBecomes(7, 3, 6, 0);
        cornerBecomes(1, 5, 0, 2);
        cornerBecomes(4, 0, 3, 5);
        for (int mix = 0; mix < 512; mix++) {
            int own = mix % 8;
            int right = mix / 8 % 8;
            int below = mix / 64;
            int best = own;
            for (int turn = 0; turn < 8; turn++) {
                best = squares(turn, right, below) < squares(best, right, below) ? turn : best;
            }
            cornerBecomes(best, own, right, below);
        }
    }

    private static boolean areBeside(int a, int b) {
        return Math.abs(a % 8 - b % 8) + Math.abs(a / 8 - b / 8) == 1;
    }

    /** One more CELL that had a say, over the plate's edge or over a corner, would draw it towards 4. */
    private static void besideNoOther() {
        edges.of(6, "the CELLS beside it (left, right, above, below) together are least");
        for (int one = 0; one < 64; one++) {
            BurinLines b = Plates.allTold(4);
            for (int cell = 0; cell < 64; cell++) {
                if (areBeside(one, cell)) {
                    b.tell(cell % 8, cell / 8, 0);
                }
            }
            b.free(one % 8, one / 8);
            edges.due(b, 2, "even");
            edges.due(b, 0, "at", one % 8, one / 8, 1);
            edges.due(b, 1, "even");
        }
    }

    private static void besideEachOne() {
        edges.of(6, "the squares of APART from the CELLS beside it (left, right, above, below)");
        for (int one = 0; one < 64; one++) {
            boolean isCorner = one % 8 % 7 == 0 && one / 8 % 7 == 0;
            for (int cell = 0; cell < 64; cell++) {
                if (!areBeside(one, cell)) {
                    continue;
                }
                BurinLines b = Plates.allTold(0);
                b.tell(cell % 8, cell / 8, 4);
                b.free(one % 8, one / 8);
                edges.due(b, 2, "even");
                // Of plain sums, not squares, 0 would be among the least, and stay.
                edges.due(b, isCorner ? 2 : 1, "at", one % 8, one / 8, 1);
            }
        }
    }

    private static void ofSeveralTheLeast() {
        edges.of(6, "of several the least, but if that which it has is one of these, it stays");
        cornerBecomes(2, 0, 0, 4);
        cornerBecomes(2, 7, 0, 4);
        cornerBecomes(2, 2, 0, 4);
        cornerBecomes(6, 6, 0, 4);
        cornerBecomes(1, 2, 7, 3);
        cornerBecomes(5, 5, 7, 3);
        cornerBecomes(0, 3, 7, 0);
        cornerBecomes(7, 7, 7, 0);
        cornerBecomes(0, 0, 7, 0);
        cornerBecomes(6, 1, 0, 5);
        cornerBecomes(7, 7, 0, 5);
        cornerBecomes(6, 3, 6, 7);
        cornerBecomes(7, 7, 6, 7);
        // Beside 0, 2, 4 and 6 the odd TURNS are as good as one another, and better than the even ones.
        for (int own = 0; own < 8; own++) {
            BurinLines b = Plates.allTold(0);
            b.tell(3, 2, 2);
            b.tell(4, 3, 4);
            b.tell(3, 4, 6);
            b.tell(3, 3, own);
            b.free(3, 3);
            boolean stays = own % 2 == 1;
            edges.due(b, stays ? 1 : 2, "even");
            edges.due(b, stays ? own : 1, "at", 3, 3, 1);
        }
    }

    /**
     * Two free CELLS: three beside the first one have TURN 2, three beside the second one 6. If the
     * second one came first, or both at once, a second going would change it once more.
     */
    private static void pair(int x, int y, int dx, int dy) {
        BurinLines b = Plates.allTold(0);
        int first = 8 * y + x;
        int second = 8 * (y + dy) + x + dx;
        for (int cell = 0; cell < 64; cell++) {
            if (areBeside(cell, first)) {
                b.tell(cell % 8, cell / 8, 2);
            }
            if (areBeside(cell, second)) {
                b.tell(cell % 8, cell / 8, 6);
            }
        }
        for (int cell : new int[] {first, second}) {
            b.tell(cell % 8, cell / 8, 0);
            b.free(cell % 8, cell / 8);
        }
        edges.due(b, 2, "even");
        edges.due(b, 1, "at", x, y, 1);
        edges.due(b, 7, "at", x + dx, y + dy, 1);
    }

    private static void fromTheLeft() {
        edges.of(6, "row by row, each from the left, one after the other");
        for (int y = 1; y < 7; y++) {
            for (int x = 1; x < 6; x++) {
                pair(x, y, 1, 0);
                pair(y, x, 0, 1);
            }
        }
    }

    private static void notTold() {
        edges.of(6, "EVENED: for all CELLS that are not TOLD");
        BurinLines all = Plates.FULL.make();
        edges.due(all, 1, "even");
        edges.due(all, 49, "count", 4);
        edges.due(all, 64, "count", 1);
        BurinLines none = new BurinLines();
        edges.due(none, 1, "even");
        edges.due(none, 0, "count", 1);
        for (int one = 0; one < 64; one++) {
            BurinLines b = Plates.allTold(0);
            b.tone(one % 8, one / 8, 100);
            b.tell(one % 8, one / 8, 4);
            edges.due(b, 1, "even");
            edges.due(b, 4, "at", one % 8, one / 8, 1);
            b.free(one % 8, one / 8);
            edges.due(b, 2, "even");
            edges.due(b, 0, "at", one % 8, one / 8, 1);
            edges.due(b, 100, "at", one % 8, one / 8, 0);
            edges.due(b, 63, "count", 1);
        }
    }

    private static BurinLines plate(String turns) {
        BurinLines b = new BurinLines();
        for (int cell = 0; cell < 64; cell++) {
            b.tell(cell % 8, cell / 8, turns.charAt(cell) - '0');
            if (TOLD.charAt(cell) == '0') {
                b.free(cell % 8, cell / 8);
            }
        }
        return b;
    }

    private static void looks(BurinLines b, String turns) {
        for (int cell = 0; cell < 64; cell++) {
            edges.due(b, turns.charAt(cell) - '0', "at", cell % 8, cell / 8, 1);
            edges.due(b, TOLD.charAt(cell) - '0', "at", cell % 8, cell / 8, 2);
        }
    }

    private static void twentyTimesAtMost() {
        edges.of(6, "this again and again, till a going through changes nothing, but 20 times at most.");
        for (String turns : new String[] {BY_19, BY_20, BY_21}) {
            BurinLines b = plate(turns);
            edges.due(b, turns.equals(BY_19) ? 19 : 20, "even");
            looks(b, AT_LAST);
            edges.due(b, 1, "even");
        }
        // Six goings more than 20: what is left is done by the next call.
        BurinLines slow = plate("6030332266677757112125723426515767254415660227717040654024235245");
        edges.due(slow, 20, "even");
        looks(slow, "6701332066013457132235422223215322253412220222112222222222232243");
        edges.due(slow, 7, "even");
        looks(slow, AT_LAST);
        edges.due(slow, 1, "even");
    }

    private static void howManyGoings() {
        edges.of(6, "how many goings through there were (the last one, that changed nothing, too).");
        BurinLines b = new BurinLines();
        edges.due(b, 1, "even");
        edges.due(b, 1, "even");
        b.tell(0, 0, 4);
        b.free(0, 0);
        edges.due(b, 2, "even");
        edges.due(b, 1, "even");
        edges.due(b, 0, "at", 0, 0, 1);
        // The CELLS beside the last one come before it: they follow it to 1, and then go back with it.
        b.tell(7, 7, 4);
        b.free(7, 7);
        edges.due(b, 3, "even");
        edges.due(b, 1, "even");
        edges.due(b, 0, "at", 7, 7, 1);
    }
}
