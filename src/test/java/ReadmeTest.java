import java.nio.file.Files;
import java.nio.file.Path;
import java.util.ArrayList;
import java.util.List;
import java.util.regex.Matcher;
import java.util.regex.Pattern;

/** README.md tells the truth: its example answers what stands behind each call, its table has each call of the face. */
public final class ReadmeTest {
    private static final Pattern EXAMPLE = Pattern.compile("plate\\.(\\w+)\\(([^)]*)\\);\\s*// (-?\\d+):");
    private static final Pattern ROW = Pattern.compile("(?m)^\\| `(\\w+\\([^)]*\\))` \\|.*\\| ([A-Z, ]*)\\|$");
    private static final Check check = new Check();

    public static void main(String[] args) throws Exception {
        String readme = Files.readString(Path.of("README.md"));
        String document = Files.readString(Path.of("../shared/DOC.md"));
        example(readme);
        table(readme, document);
        check.end();
    }

    private static void example(String readme) {
        BurinLines plate = new BurinLines();
        Matcher line = EXAMPLE.matcher(readme);
        int calls = 0;
        while (line.find()) {
            Call call = Call.of(line.group(1), numbers(line.group(2)));
            check.due(call.toString(), call.on(plate), Integer.parseInt(line.group(3)));
            calls++;
        }
        check.due("calls with an answer", calls, Pattern.compile("(?m)^plate\\.").matcher(readme).results().count());
        check.holds("there is an example", calls > 0);
    }

    private static int[] numbers(String list) {
        if (list.isEmpty()) {
            return new int[0];
        }
        String[] parts = list.split(", ");
        int[] numbers = new int[parts.length];
        for (int i = 0; i < parts.length; i++) {
            numbers[i] = Integer.parseInt(parts[i]);
        }
        return numbers;
    }

    private static void table(String readme, String document) {
        List<String> rows = new ArrayList<>();
        Matcher row = ROW.matcher(readme);
        while (row.find()) {
            rows.add(row.group(1));
            check.due("refusals of " + row.group(1) + " in the table are those of its promise: " + row.group(2),
                    refusals(row.group(2)), refusals(promiseOf(row.group(1), document)));
        }
        List<String> face = new ArrayList<>();
        Matcher method = Pattern.compile("public int (\\w+\\([^)]*\\));").matcher(document);
        while (method.find()) {
            face.add(method.group(1));
        }
        check.due("calls of the document", face.size(), 18);
        check.holds("the table has " + face + ", in their order: " + rows, rows.equals(face));
    }

    private static String promiseOf(String call, String document) {
        int from = document.indexOf("`int " + call + "`");
        check.holds(call + " has a promise", from >= 0);
        int to = document.indexOf("\n## ", Math.max(from, 0));
        return document.substring(Math.max(from, 0), to);
    }

    /** Which of UNKNOWN, OUTSIDE and NOT a text names, as the bits of a number. */
    private static int refusals(String text) {
        int bits = 0;
        String[] names = {"UNKNOWN", "OUTSIDE", "NOT"};
        for (int i = 0; i < names.length; i++) {
            bits |= Pattern.compile("\\b" + names[i] + "\\b").matcher(text).find() ? 1 << i : 0;
        }
        return bits;
    }
}
