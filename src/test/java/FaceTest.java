import java.lang.reflect.Constructor;
import java.lang.reflect.Field;
import java.lang.reflect.Method;
import java.lang.reflect.Modifier;
import java.nio.file.Files;
import java.nio.file.Path;
import java.util.Set;
import java.util.TreeSet;
import java.util.regex.Matcher;
import java.util.regex.Pattern;

/** The public face is that which the document shows, and nothing else is open. */
public final class FaceTest {
    private static final Check check = new Check();
    private static final String[] FACE = {
        "tone 3", "shade 5", "tell 3", "free 2", "even 0", "at 3", "knot 2", "set 2", "wanted 3",
        "width 3", "made 2", "error 1", "paths 1", "path 3", "cut 2", "begin 2", "air 1", "count 1"
    };

    public static void main(String[] args) throws Exception {
        classItself();
        constants();
        methods();
        classesInside();
        documentShowsIt(Files.readString(Path.of("../shared/DOC.md")));
        check.end();
    }

    private static void documentShowsIt(String document) {
        Set<String> shown = new TreeSet<>();
        Matcher method = Pattern.compile("public int (\\w+)\\(([^)]*)\\);").matcher(document);
        while (method.find()) {
            int parameters = method.group(2).isEmpty() ? 0 : method.group(2).split(",").length;
            shown.add(method.group(1) + " " + parameters);
        }
        check.holds("the document shows these methods: " + shown, shown.equals(Set.of(FACE)));
        check.holds("the document shows these constants",
                document.contains("public static final int NONE = -1, UNKNOWN = -2, OUTSIDE = -3, NOT = -4;"));
    }

    private static void classItself() {
        int modifiers = BurinLines.class.getModifiers();
        check.holds("public and final", Modifier.isPublic(modifiers) && Modifier.isFinal(modifiers));
        Constructor<?>[] constructors = BurinLines.class.getDeclaredConstructors();
        check.due("constructors", constructors.length, 1);
        check.due("parameters of it", constructors[0].getParameterCount(), 0);
        check.holds("public constructor", Modifier.isPublic(constructors[0].getModifiers()));
    }

    private static void constants() {
        check.due("NONE", BurinLines.NONE, -1);
        check.due("UNKNOWN", BurinLines.UNKNOWN, -2);
        check.due("OUTSIDE", BurinLines.OUTSIDE, -3);
        check.due("NOT", BurinLines.NOT, -4);
        Set<String> open = new TreeSet<>();
        for (Field field : BurinLines.class.getDeclaredFields()) {
            int modifiers = field.getModifiers();
            if (!Modifier.isPrivate(modifiers)) {
                open.add(field.getName());
                check.holds(field + " is public, static, final, an int", Modifier.isPublic(modifiers)
                        && Modifier.isStatic(modifiers) && Modifier.isFinal(modifiers) && field.getType() == int.class);
            }
            check.holds(field + ": static fields are final", !Modifier.isStatic(modifiers) || Modifier.isFinal(modifiers));
        }
        check.holds("no other open field: " + open, open.equals(Set.of("NONE", "UNKNOWN", "OUTSIDE", "NOT")));
    }

    private static void methods() {
        Set<String> open = new TreeSet<>();
        Set<String> closed = new TreeSet<>();
        for (Method method : BurinLines.class.getDeclaredMethods()) {
            if (Modifier.isPrivate(method.getModifiers())) {
                closed.add(method.getName());
                continue;
            }
            open.add(method.getName() + " " + method.getParameterCount());
            check.holds(method + " is public, answers an int, is no static one", Modifier.isPublic(method.getModifiers())
                    && method.getReturnType() == int.class && !Modifier.isStatic(method.getModifiers()));
            for (Class<?> type : method.getParameterTypes()) {
                check.holds(method + " takes ints", type == int.class);
            }
        }
        check.holds("the document's methods and no other: " + open, open.equals(Set.of(FACE)));
        for (String name : closed) {
            check.holds("no private method has a name of the face: " + name, !isOfFace(name));
        }
    }

    private static boolean isOfFace(String name) {
        for (String one : FACE) {
            if (one.startsWith(name + " ")) {
                return true;
            }
        }
        return false;
    }

    private static void classesInside() {
        Class<?>[] inside = BurinLines.class.getDeclaredClasses();
        check.holds("at most twelve classes", inside.length < 12);
        for (Class<?> one : inside) {
            int modifiers = one.getModifiers();
            check.holds(one + " is static and not public", Modifier.isStatic(modifiers)
                    && !Modifier.isPublic(modifiers) && !Modifier.isProtected(modifiers));
            check.holds(one + " has at most twenty fields", one.getDeclaredFields().length <= 20);
            for (Method method : one.getDeclaredMethods()) {
                check.holds(method + " takes at most seven", method.getParameterCount() <= 7);
                check.holds(method + " has no name of the face", !isOfFace(method.getName()));
            }
        }
    }
}
