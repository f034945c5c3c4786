import java.util.ArrayList;
import java.util.List;

/** The plates on which edges are looked at: with nothing on them, used, and full of all there is. */
enum Plates {
    WHITE(List.of()), USED(used()), FULL(full());

    private final List<Call> calls;

    Plates(List<Call> calls) {
        this.calls = calls;
    }

    BurinLines make() {
        BurinLines b = new BurinLines();
        for (Call call : calls) {
            call.on(b);
        }
        return b;
    }

    Model model() {
        Model model = new Model();
        for (Call call : calls) {
            model.answer(call);
        }
        return model;
    }

    private static List<Call> used() {
        return List.of(
            Call.of("shade", 1, 1, 6, 6, 80), Call.of("tone", 2, 3, 35),
            Call.of("tell", 3, 3, 6), Call.of("tell", 2, 2, 3), Call.of("tell", 7, 7, 5),
            Call.of("free", 7, 7), Call.of("even"),
            Call.of("set", 0, 20), Call.of("set", 1, 50), Call.of("set", 2, 2), Call.of("set", 3, 3));
    }

    /** All CELLS dark and TOLD, no two STROKES TIED, a KNOT in each block. */
    private static List<Call> full() {
        List<Call> calls = new ArrayList<>();
        calls.add(Call.of("shade", 0, 0, 7, 7, 100));
        int[][] turns = {{0, 2}, {6, 4}};
        for (int cell = 0; cell < 64; cell++) {
            calls.add(Call.of("tell", cell % 8, cell / 8, turns[cell / 8 % 2][cell % 2]));
        }
        return calls;
    }

    /** All CELLS TOLD as one TURN. */
    static BurinLines allTold(int turn) {
        BurinLines b = new BurinLines();
        for (int cell = 0; cell < 64; cell++) {
            b.tell(cell % 8, cell / 8, turn);
        }
        return b;
    }
}
