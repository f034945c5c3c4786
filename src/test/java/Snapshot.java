import java.util.ArrayList;
import java.util.List;

/**
 * All that can be asked of a plate after some calls. An object is good for 512 of them: so the same is
 * done to several objects, and each is asked for a part.
 */
final class Snapshot {
    /** So many calls can come before the questions on any of the plates. */
    static final int MOST_CALLS = 150;
    private static final int PARTS = 6;

    private Snapshot() {
    }

    static List<Integer> after(List<Call> calls, Plates plate) {
        List<Integer> seen = new ArrayList<>();
        for (int part = 0; part < PARTS; part++) {
            BurinLines b = plate.make();
            for (Call call : calls) {
                call.on(b);
            }
            see(b, part, seen);
        }
        return seen;
    }

    private static void see(BurinLines b, int part, List<Integer> seen) {
        switch (part) {
            case 0:
                seeStates(b, seen);
                break;
            case 1:
                seeLines(b, seen);
                break;
            case 2: case 3:
                seeLayer(b, part - 2, seen);
                break;
            default:
                seePaths(b, part - 4, seen);
        }
    }

    private static void seeStates(BurinLines b, List<Integer> seen) {
        for (int cell = 0; cell < 64; cell++) {
            for (int what = 0; what < 3; what++) {
                seen.add(b.at(cell % 8, cell / 8, what));
            }
        }
        for (int what = 0; what < 5; what++) {
            seen.add(b.count(what));
        }
        int[] any = {4, 10, 1, 1};
        for (int what = 0; what < 4; what++) {
            seen.add(b.set(what, any[what]));
        }
    }

    private static void seeLines(BurinLines b, List<Integer> seen) {
        for (int cell = 0; cell < 64; cell++) {
            seen.add(b.wanted(cell % 8, cell / 8, 0));
            seen.add(b.wanted(cell % 8, cell / 8, 1));
            seen.add(b.made(cell % 8, cell / 8));
        }
        for (int block = 0; block < 49; block++) {
            seen.add(b.knot(block % 7, block / 7));
        }
        seen.add(b.error(0));
        seen.add(b.error(1));
    }

    private static void seeLayer(BurinLines b, int layer, List<Integer> seen) {
        for (int cell = 0; cell < 64; cell++) {
            seen.add(b.width(cell % 8, cell / 8, layer));
            seen.add(b.cut(layer, cell));
            seen.add(b.begin(layer, cell));
        }
        seen.add(b.paths(layer));
        seen.add(b.air(layer));
    }

    private static void seePaths(BurinLines b, int layer, List<Integer> seen) {
        for (int k = 0; k < 64; k++) {
            for (int what = 0; what < 4; what++) {
                seen.add(b.path(layer, k, what));
            }
        }
    }
}
