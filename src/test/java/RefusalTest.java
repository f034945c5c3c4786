import java.util.ArrayList;
import java.util.List;

/**
 * Every mix of numbers at and beyond the edges, for each call on each plate: where the Model says that
 * it is refused, it is refused so, and nothing has changed.
 */
public final class RefusalTest {
    private static final String REFUSED = "Refused, and nothing changes: UNKNOWN (no such CELL, LAYER, PATH, block), "
            + "OUTSIDE (another number is not as told), NOT (not now: as told): the first of these that fits.";
    private static final int LOW = Edges.LOW, HIGH = Edges.HIGH;
    private static final int[] ANY = {LOW, -8, -1, 0, 1, 2, 3, 4, 5, 6, 7, 8, 63, 64, 100, 101, HIGH};
    private static final int[] PLACES = {LOW, -1, 0, 3, 7, 8, HIGH};
    private static final int[] SETTINGS = {LOW, -1, 0, 1, 3, 4, 9, 10, 11, 39, 40, 41, 99, 100, 101, HIGH};

    private static Edges edges;

    public static void main(String[] args) throws Exception {
        edges = new Edges();
        mixes(2, "tone", ANY, ANY, ANY);
        mixes(3, "shade", PLACES, PLACES, PLACES, PLACES, new int[] {-1, 0, 100, 101});
        mixes(4, "tell", ANY, ANY, ANY);
        mixes(5, "free", ANY, ANY);
        mixes(7, "at", ANY, ANY, ANY);
        mixes(8, "knot", ANY, ANY);
        mixes(9, "set", ANY, SETTINGS);
        mixes(10, "wanted", ANY, ANY, ANY);
        mixes(11, "width", ANY, ANY, ANY);
        mixes(12, "made", ANY, ANY);
        mixes(13, "error", ANY);
        mixes(14, "paths", ANY);
        mixes(15, "path", ANY, ANY, ANY);
        mixes(16, "cut", ANY, ANY);
        mixes(17, "begin", ANY, ANY);
        mixes(18, "air", ANY);
        mixes(19, "count", ANY);
        edges.end(2, 3, 4, 5, 7, 8, 9, 10, 11, 12, 13, 14, 15, 16, 17, 18, 19);
    }

    private static void mixes(int promise, String name, int[]... numbers) {
        edges.of(promise, REFUSED);
        int all = 1;
        for (int[] ofOne : numbers) {
            all *= ofOne.length;
        }
        for (Plates plate : Plates.values()) {
            List<Call> refused = new ArrayList<>();
            for (int mix = 0; mix < all; mix++) {
                Call call = Call.of(name, mixOf(mix, numbers));
                int want = plate.model().answer(call);
                edges.due(plate.make(), want, name, call.args);
                if (want < BurinLines.NONE) {
                    refused.add(call);
                }
            }
            changeNothing(plate, refused);
            edges.holds(name + " was refused on a plate " + plate, !refused.isEmpty());
        }
    }

    private static int[] mixOf(int mix, int[][] numbers) {
        int[] args = new int[numbers.length];
        int rest = mix;
        for (int i = 0; i < args.length; i++) {
            args[i] = numbers[i][rest % numbers[i].length];
            rest /= numbers[i].length;
        }
        return args;
    }

    private static void changeNothing(Plates plate, List<Call> refused) {
        for (int from = 0; from < refused.size(); from += Snapshot.MOST_CALLS) {
            int to = Math.min(from + Snapshot.MOST_CALLS, refused.size());
            edges.changeNothing(plate, refused.subList(from, to));
        }
    }
}
