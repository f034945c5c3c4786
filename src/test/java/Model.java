import java.util.ArrayList;
import java.util.List;

/**
 * The document once more, word by word and without regard to speed: what BurinLines is compared
 * with. It shares no code with it, and finds WIDTHS, TIED STROKES and PATHS in another way.
 */
final class Model {
    private static final int UNKNOWN = -2, OUTSIDE = -3, NOT = -4;
    private static final int[][] WAYS = {{1, 0}, {1, 1}, {0, 1}, {-1, 1}};

    private final int[][] tone = new int[8][8];
    private final int[][] turn = new int[8][8];
    private final boolean[][] told = new boolean[8][8];
    private int s = 10, cross = 60, least = 1, swell = 40;

    int answer(Call call) {
        int[] a = call.args;
        switch (call.name) {
            case "tone": return tone(a[0], a[1], a[2]);
            case "shade": return shade(a[0], a[1], a[2], a[3], a[4]);
            case "tell": return tell(a[0], a[1], a[2]);
            case "free": return free(a[0], a[1]);
            case "even": return even();
            case "at": return at(a[0], a[1], a[2]);
            case "knot": return within(a[0], 0, 6) && within(a[1], 0, 6) ? knot(a[0], a[1]) : UNKNOWN;
            case "set": return set(a[0], a[1]);
            case "wanted": return cell(a[0], a[1]) && layer(a[2]) ? wanted(a[0], a[1], a[2]) : UNKNOWN;
            case "width": return cell(a[0], a[1]) && layer(a[2]) ? widths(a[2])[a[1]][a[0]] : UNKNOWN;
            case "made": return cell(a[0], a[1]) ? made(a[0], a[1]) : UNKNOWN;
            case "error": return error(a[0]);
            case "paths": return layer(a[0]) ? paths(a[0]).size() : UNKNOWN;
            case "path": return path(a[0], a[1], a[2]);
            case "cut": return ofOrder(a[0], a[1], 0);
            case "begin": return ofOrder(a[0], a[1], 1);
            case "air": return air(a[0]);
            case "count": return count(a[0]);
            default: throw new IllegalArgumentException(call.name);
        }
    }

    private static boolean within(int v, int low, int high) {
        return low <= v && v <= high;
    }

    private static boolean cell(int x, int y) {
        return within(x, 0, 7) && within(y, 0, 7);
    }

    private static boolean layer(int n) {
        return within(n, 0, 1);
    }

    private int tone(int x, int y, int v) {
        if (!cell(x, y)) return UNKNOWN;
        if (!within(v, 0, 100)) return OUTSIDE;
        int was = tone[y][x];
        tone[y][x] = v;
        return was;
    }

    private int shade(int x0, int y0, int x1, int y1, int v) {
        if (!cell(x0, y0)) return UNKNOWN;
        if (!cell(x1, y1)) return UNKNOWN;
        if (!within(v, 0, 100)) return OUTSIDE;
        if (x1 < x0 || y1 < y0) return OUTSIDE;
        int changed = 0;
        for (int y = 0; y < 8; y++) {
            for (int x = 0; x < 8; x++) {
                if (within(x, x0, x1) && within(y, y0, y1) && tone(x, y, v) != v) changed++;
            }
        }
        return changed;
    }

    private int tell(int x, int y, int t) {
        if (!cell(x, y)) return UNKNOWN;
        if (!within(t, 0, 7)) return OUTSIDE;
        int was = turn[y][x];
        turn[y][x] = t;
        told[y][x] = true;
        return was;
    }

    private int free(int x, int y) {
        if (!cell(x, y)) return UNKNOWN;
        if (!told[y][x]) return NOT;
        told[y][x] = false;
        return 1;
    }

    private static int apart(int a, int b) {
        int far = Math.abs(a - b);
        return Math.min(far, 8 - far);
    }

    private int even() {
        for (int going = 1; ; going++) {
            boolean changed = false;
            for (int y = 0; y < 8; y++) {
                for (int x = 0; x < 8; x++) {
                    if (told[y][x]) continue;
                    List<Integer> best = bestTurns(x, y);
                    if (!best.contains(turn[y][x])) {
                        turn[y][x] = best.get(0);
                        changed = true;
                    }
                }
            }
            if (!changed || going == 20) return going;
        }
    }

    private List<Integer> bestTurns(int x, int y) {
        int[] sums = new int[8];
        int lowest = Integer.MAX_VALUE;
        for (int t = 0; t < 8; t++) {
            for (int oy = 0; oy < 8; oy++) {
                for (int ox = 0; ox < 8; ox++) {
                    boolean beside = Math.abs(ox - x) + Math.abs(oy - y) == 1;
                    if (beside) sums[t] += apart(t, turn[oy][ox]) * apart(t, turn[oy][ox]);
                }
            }
            lowest = Math.min(lowest, sums[t]);
        }
        List<Integer> best = new ArrayList<>();
        for (int t = 0; t < 8; t++) {
            if (sums[t] == lowest) best.add(t);
        }
        return best;
    }

    private int at(int x, int y, int what) {
        if (!cell(x, y)) return UNKNOWN;
        if (!within(what, 0, 2)) return OUTSIDE;
        return new int[] {tone[y][x], turn[y][x], told[y][x] ? 1 : 0}[what];
    }

    private int knot(int x, int y) {
        int[] around = {turn[y][x], turn[y][x + 1], turn[y + 1][x + 1], turn[y + 1][x], turn[y][x]};
        int together = 0;
        for (int i = 0; i < 4; i++) {
            for (int grows = -3; grows <= 4; grows++) {
                if (Math.floorMod(around[i] + grows, 8) != around[i + 1]) continue;
                if (grows == 4) return 2;
                together += grows;
            }
        }
        return together / 8;
    }

    private int set(int what, int v) {
        int was;
        if (what == 0 && within(v, 4, 40)) {
            was = s;
            s = v;
        } else if (what == 1 && within(v, 10, 100)) {
            was = cross;
            cross = v;
        } else if (what == 2 && within(v, 1, 10)) {
            was = least;
            least = v;
        } else if (what == 3 && within(v, 1, 40)) {
            was = swell;
            swell = v;
        } else {
            was = OUTSIDE;
        }
        return was;
    }

    private int wanted(int x, int y, int n) {
        int part = tone[y][x];
        if (n == 0 && part > cross) part = cross;
        if (n == 1) part = part > cross ? part - cross : 0;
        int width = s * part / 100;
        return width < least ? 0 : width;
    }

    private int way(int x, int y, int n) {
        return (turn[y][x] + (n == 1 ? 4 : 0)) % 8 / 2;
    }

    /** Whether the second STROKE lies one WAY on from the first and both have that WAY. */
    private boolean follows(int x, int y, int ox, int oy, int n) {
        if (wanted(x, y, n) == 0 || wanted(ox, oy, n) == 0) return false;
        int way = way(x, y, n);
        return way(ox, oy, n) == way && ox - x == WAYS[way][0] && oy - y == WAYS[way][1];
    }

    /** The pairs of TIED STROKES, as {from, to}. */
    private List<int[]> ties(int n) {
        List<int[]> ties = new ArrayList<>();
        for (int from = 0; from < 64; from++) {
            for (int to = 0; to < 64; to++) {
                if (follows(from % 8, from / 8, to % 8, to / 8, n)) ties.add(new int[] {from, to});
            }
        }
        return ties;
    }

    private int[][] widths(int n) {
        int[][] width = new int[8][8];
        for (int y = 0; y < 8; y++) {
            for (int x = 0; x < 8; x++) width[y][x] = wanted(x, y, n);
        }
        List<int[]> ties = ties(n);
        boolean changed = true;
        while (changed) {
            changed = false;
            for (int[] tie : ties) {
                changed |= narrow(width, tie[0], tie[1]) | narrow(width, tie[1], tie[0]);
            }
        }
        return width;
    }

    private boolean narrow(int[][] width, int a, int b) {
        int most = width[b / 8][b % 8] + swell;
        if (width[a / 8][a % 8] <= most) return false;
        width[a / 8][a % 8] = most;
        return true;
    }

    private int made(int x, int y) {
        return 100 * (widths(0)[y][x] + widths(1)[y][x]) / s;
    }

    private int error(int what) {
        if (!within(what, 0, 1)) return OUTSIDE;
        int greatest = 0;
        int all = 0;
        int[][] light = widths(0);
        int[][] dark = widths(1);
        for (int y = 0; y < 8; y++) {
            for (int x = 0; x < 8; x++) {
                int error = Math.abs(tone[y][x] - 100 * (light[y][x] + dark[y][x]) / s);
                greatest = Math.max(greatest, error);
                all += error;
            }
        }
        return what == 0 ? greatest : all;
    }

    private List<List<Integer>> paths(int n) {
        int[] next = new int[64];
        boolean[] hasBefore = new boolean[64];
        java.util.Arrays.fill(next, -1);
        for (int[] tie : ties(n)) {
            next[tie[0]] = tie[1];
            hasBefore[tie[1]] = true;
        }
        List<List<Integer>> paths = new ArrayList<>();
        for (int first = 0; first < 64; first++) {
            if (hasBefore[first] || wanted(first % 8, first / 8, n) == 0) continue;
            List<Integer> path = new ArrayList<>();
            for (int cell = first; cell >= 0; cell = next[cell]) path.add(cell);
            paths.add(path);
        }
        return paths;
    }

    private int path(int n, int k, int what) {
        if (!layer(n)) return UNKNOWN;
        List<List<Integer>> paths = paths(n);
        if (!within(k, 0, paths.size() - 1)) return UNKNOWN;
        if (!within(what, 0, 3)) return OUTSIDE;
        List<Integer> path = paths.get(k);
        int[][] widths = widths(n);
        int widest = 0;
        for (int cell : path) widest = Math.max(widest, widths[cell / 8][cell % 8]);
        return new int[] {path.get(0), path.get(path.size() - 1), path.size(), widest}[what];
    }

    private static int far(int a, int b) {
        return Math.max(Math.abs(a % 8 - b % 8), Math.abs(a / 8 - b / 8));
    }

    /** For each PATH in ORDER: its number, the CELL it is begun at, the AIR before it. */
    private List<int[]> order(int n) {
        List<List<Integer>> paths = paths(n);
        List<Integer> left = new ArrayList<>();
        for (int k = 0; k < paths.size(); k++) left.add(k);
        List<int[]> order = new ArrayList<>();
        int tool = 0;
        while (!left.isEmpty()) {
            int[] best = null;
            int goesTo = 0;
            for (int k : left) {
                int first = paths.get(k).get(0);
                int last = paths.get(k).get(paths.get(k).size() - 1);
                for (int[] ends : new int[][] {{first, last}, {last, first}}) {
                    if (best == null || far(tool, ends[0]) < best[2]) {
                        best = new int[] {k, ends[0], far(tool, ends[0])};
                        goesTo = ends[1];
                    }
                }
            }
            order.add(best);
            left.remove(Integer.valueOf(best[0]));
            tool = goesTo;
        }
        return order;
    }

    private int ofOrder(int n, int i, int what) {
        if (!layer(n)) return UNKNOWN;
        List<int[]> order = order(n);
        return within(i, 0, order.size() - 1) ? order.get(i)[what] : OUTSIDE;
    }

    private int air(int n) {
        if (!layer(n)) return UNKNOWN;
        int air = 0;
        for (int[] one : order(n)) air += one[2];
        return air;
    }

    private int count(int what) {
        if (!within(what, 0, 4)) return OUTSIDE;
        int[] counts = new int[5];
        for (int y = 0; y < 8; y++) {
            for (int x = 0; x < 8; x++) {
                if (tone[y][x] > 0) counts[0]++;
                if (told[y][x]) counts[1]++;
                if (wanted(x, y, 0) > 0) counts[2]++;
                if (wanted(x, y, 1) > 0) counts[3]++;
                if (x < 7 && y < 7 && Math.abs(knot(x, y)) == 1) counts[4]++;
            }
        }
        return counts[what];
    }
}
