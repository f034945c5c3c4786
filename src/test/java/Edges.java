import java.io.IOException;
import java.nio.file.Files;
import java.nio.file.Path;
import java.util.EnumMap;
import java.util.List;
import java.util.Map;
import java.util.Set;
import java.util.TreeSet;

/**
 * Looks at answers under the sentence of the document that asks for them. A wrong answer is told with
 * the promise and the sentence; a sentence that the document does not have is wrong too.
 */
final class Edges {
    static final int UNKNOWN = -2, OUTSIDE = -3, NOT = -4;
    static final int LOW = Integer.MIN_VALUE, HIGH = Integer.MAX_VALUE;

    private final Check check = new Check();
    private final String[] sections;
    private final Set<Integer> promises = new TreeSet<>();
    private final Map<Plates, List<Integer>> untouched = new EnumMap<>(Plates.class);
    private String under = "";

    Edges() throws IOException {
        String document = Files.readString(Path.of("../shared/DOC.md"));
        sections = document.replaceAll("\\s+", " ").split("## ");
        for (Plates plate : Plates.values()) {
            untouched.put(plate, Snapshot.after(List.of(), plate));
        }
    }

    /** The sentence under which the next answers are looked at. */
    void of(int promise, String sentence) {
        promises.add(promise);
        under = "promise " + promise + ", \"" + sentence + "\": ";
        boolean found = false;
        for (String section : sections) {
            boolean itsOwn = section.startsWith("Promise " + promise + ":");
            boolean ofAll = section.startsWith("Terms") || section.startsWith("What it is");
            found |= (itsOwn || ofAll) && section.contains(sentence);
        }
        check.holds(under + "the document says so", found);
    }

    void due(BurinLines b, int want, String name, int... args) {
        Call call = Call.of(name, args);
        int got = call.on(b);
        check.due(got == want ? "" : under + call, got, want);
    }

    void holds(String what, boolean so) {
        check.holds(so ? "" : under + what, so);
    }

    void refusedOn(Plates plate, int want, String name, int... args) {
        Call call = Call.of(name, args);
        String what = under + call + " on a plate " + plate;
        check.due(what, call.on(plate.make()), want);
        changeNothing(plate, List.of(call));
    }

    void changeNothing(Plates plate, List<Call> calls) {
        boolean same = Snapshot.after(calls, plate).equals(untouched.get(plate));
        holds(same ? "" : calls + " change nothing on a plate " + plate, same);
    }

    void refused(int want, String name, int... args) {
        for (Plates plate : Plates.values()) {
            refusedOn(plate, want, name, args);
        }
    }

    /** A call that takes x, y and then others: the last CELLS that there are, and the first that are not. */
    void cells(String name, int... others) {
        for (int x = 0; x < 8; x += 7) {
            for (int y = 0; y < 8; y += 7) {
                int[] args = args(x, y, others);
                holds(Call.of(name, args) + " is a CELL", Call.of(name, args).on(new BurinLines()) != UNKNOWN);
            }
        }
        unknown(name, 7, 8, others);
    }

    /** x or y, or both, are not from 0 to the last one. */
    void unknown(String name, int last, int firstWrong, int... others) {
        for (int wrong : new int[] {-1, firstWrong, LOW, HIGH}) {
            for (int right : new int[] {0, last}) {
                refused(UNKNOWN, name, args(wrong, right, others));
                refused(UNKNOWN, name, args(right, wrong, others));
            }
            refused(UNKNOWN, name, args(wrong, wrong, others));
        }
    }

    private static int[] args(int x, int y, int[] others) {
        int[] args = new int[2 + others.length];
        args[0] = x;
        args[1] = y;
        System.arraycopy(others, 0, args, 2, others.length);
        return args;
    }

    /** Tells whether all was as due, and whether none of the promises was left out. */
    void end(int... ofPromises) {
        for (int promise : ofPromises) {
            check.holds("promise " + promise + " has a test of its edges", promises.contains(promise));
        }
        check.end();
    }
}
