import java.lang.reflect.Array;
import java.lang.reflect.Field;
import java.lang.reflect.Modifier;
import java.nio.file.Files;
import java.nio.file.Path;
import java.util.ArrayDeque;
import java.util.Collections;
import java.util.IdentityHashMap;
import java.util.Set;
import java.util.regex.Matcher;
import java.util.regex.Pattern;

/** Those rules of LANGUAGE.md that a look at the class can tell, and the room that an object takes. */
public final class RulesTest {
    private static final Check check = new Check();

    public static void main(String[] args) throws Exception {
        String text = Files.readString(Path.of("src/main/java/BurinLines.java"));
        String code = text.replaceAll("(?s)/\\*.*?\\*/", " ").replaceAll("//[^\n]*", " ");
        check.holds("characters 0 to 255 alone", text.chars().allMatch(c -> c < 256));
        words(code);
        library(code);
        staticFields(code);
        methodsAreShort(code);
        makesNothingInCalls(code);
        roomIsKept();
        check.end();
    }

    private static boolean has(String code, String pattern) {
        return Pattern.compile(pattern).matcher(code).find();
    }

    private static void words(String code) {
        String[] words = {"throw", "throws", "try", "catch", "finally", "synchronized", "assert", "import", "package",
            "native", "volatile", "transient", "protected"};
        for (String word : words) {
            check.holds("no " + word, !has(code, "\\b" + word + "\\b"));
        }
        check.holds("no lambda", !code.contains("->"));
        check.holds("no method reference", !code.contains("::"));
        check.holds("one public class", Pattern.compile("\\bpublic\\b.*\\bclass\\b").matcher(code).results().count() == 1);
    }

    private static void library(String code) {
        Matcher named = Pattern.compile("\\b([A-Z]\\w*)\\.(\\w+)").matcher(code);
        Set<String> allowed = Set.of("Math.abs", "Math.max", "Math.min", "Math.floorMod");
        while (named.find()) {
            check.holds(named.group() + " is of the library that is allowed", allowed.contains(named.group()));
        }
        check.holds("no name with all its packages", !has(code, "\\b(java|javax|jdk|sun)\\."));
    }

    private static void staticFields(String code) {
        for (String line : code.split("\n")) {
            boolean isField = has(line, "\\bstatic\\b") && line.contains("=") && !line.contains("(");
            if (isField) {
                check.holds("final, of int or an array of int that is written out: " + line.trim(),
                        has(line, "static final int(\\[\\])? [A-Z_]+ = ") && !has(line, "\\bnew\\b"));
            }
        }
        check.holds("no static block", !has(code, "\\bstatic\\s*\\{"));
        Matcher written = Pattern.compile("static final int\\[\\] ([A-Z_]+)").matcher(code);
        while (written.find()) {
            check.holds(written.group(1) + " is never changed",
                    !has(code, "\\b" + written.group(1) + "\\[[^\\]]*\\]\\s*(=[^=]|\\+\\+|--|[-+*/%|&^]=)"));
        }
    }

    /** A method ends with the brace that stands as far in as its first line. */
    private static void methodsAreShort(String code) {
        Matcher method = Pattern.compile("(?m)^( +)(?!.*\\bclass\\b)\\S.*\\) \\{\n((?:.*\n)*?)\\1\\}\n").matcher(code);
        int methods = 0;
        while (method.find()) {
            methods++;
            int lines = method.group(2).split("\n").length;
            check.holds("at most sixty lines, not " + lines + ": " + method.group().trim().split("\n")[0], lines <= 60);
        }
        check.holds("methods were found: " + methods, methods > 30);
    }

    private static void makesNothingInCalls(String code) {
        for (String line : code.split("\n")) {
            if (!has(line, "\\bnew\\b")) {
                continue;
            }
            boolean ofField = has(line, "^        (private )?final (int|boolean)\\[\\] \\w+ = new (int|boolean)\\[CELLS\\];$");
            boolean ofConstructor = has(line, "^        \\w+ = new (Plate|Tool|Layer|Cutting)\\([01]?\\);$");
            check.holds("made with the object alone: " + line.trim(), ofField || ofConstructor);
        }
    }

    /** How many objects and arrays hang on one, and how many fields and elements these have. */
    private static int[] room(Object start) throws IllegalAccessException {
        Set<Object> seen = Collections.newSetFromMap(new IdentityHashMap<>());
        ArrayDeque<Object> open = new ArrayDeque<>();
        open.add(start);
        seen.add(start);
        int elements = 0;
        while (!open.isEmpty()) {
            Object one = open.remove();
            if (one.getClass().isArray()) {
                elements += Array.getLength(one);
                continue;
            }
            for (Field field : one.getClass().getDeclaredFields()) {
                if (Modifier.isStatic(field.getModifiers())) {
                    continue;
                }
                elements++;
                field.setAccessible(true);
                Object held = field.getType().isPrimitive() ? null : field.get(one);
                if (held != null && seen.add(held)) {
                    open.add(held);
                }
            }
        }
        return new int[] {seen.size(), elements};
    }

    private static void roomIsKept() throws IllegalAccessException {
        BurinLines b = new BurinLines();
        int[] before = room(b);
        check.holds("objects of one: " + before[0], before[0] <= 40);
        check.holds("fields and elements of one: " + before[1], before[1] <= 1500);
        for (Plates plate : Plates.values()) {
            BurinLines used = plate.make();
            for (int i = 0; i < 200; i++) {
                used.air(i % 2);
                used.error(1);
            }
            check.due("objects after many calls", room(used)[0], before[0]);
            check.due("elements after many calls", room(used)[1], before[1]);
        }
    }
}
