import java.util.Arrays;

/** One call of BurinLines, as a name with its arguments, so that it can be made on several objects. */
final class Call {
    final String name;
    final int[] args;

    private Call(String name, int... args) {
        this.name = name;
        this.args = args;
    }

    static Call of(String name, int... args) {
        return new Call(name, args);
    }

    int on(BurinLines b) {
        int[] a = args;
        switch (name) {
            case "tone": return b.tone(a[0], a[1], a[2]);
            case "shade": return b.shade(a[0], a[1], a[2], a[3], a[4]);
            case "tell": return b.tell(a[0], a[1], a[2]);
            case "free": return b.free(a[0], a[1]);
            case "even": return b.even();
            case "at": return b.at(a[0], a[1], a[2]);
            case "knot": return b.knot(a[0], a[1]);
            case "set": return b.set(a[0], a[1]);
            case "wanted": return b.wanted(a[0], a[1], a[2]);
            case "width": return b.width(a[0], a[1], a[2]);
            case "made": return b.made(a[0], a[1]);
            case "error": return b.error(a[0]);
            case "paths": return b.paths(a[0]);
            case "path": return b.path(a[0], a[1], a[2]);
            case "cut": return b.cut(a[0], a[1]);
            case "begin": return b.begin(a[0], a[1]);
            case "air": return b.air(a[0]);
            case "count": return b.count(a[0]);
            default: throw new IllegalArgumentException(name);
        }
    }

    @Override
    public String toString() {
        String list = Arrays.toString(args);
        return name + "(" + list.substring(1, list.length() - 1) + ")";
    }
}
