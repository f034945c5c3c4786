/**
 * Burin: a picture of 8 by 8 CELLS turned to engraved lines.
 *
 * Words in capitals are those of the document. A CELL is kept as the one number 8 y + x.
 */
public final class BurinLines {
    public static final int NONE = -1, UNKNOWN = -2, OUTSIDE = -3, NOT = -4;

    private static final int SIDE = 8;
    private static final int CELLS = SIDE * SIDE;
    private static final int TURNS = 8;
    private static final int GREATEST_TONE = 100;
    private static final int MOST_GOINGS = 20;
    private static final int TORN = 2;

    private static final int SPACING = 0, CROSS = 1, LEAST = 2, SWELL = 3;
    private static final int[] LOWEST_SETTINGS = {4, 10, 1, 1};
    private static final int[] HIGHEST_SETTINGS = {40, 100, 10, 40};

    private static final int[] WAY_X = {1, 1, 0, -1};
    private static final int[] WAY_Y = {0, 1, 1, 1};
    private static final int ON = 1, BACK = -1;

    private static final int[] APART_SQUARED = {0, 1, 4, 9, 16, 9, 4, 1};

    private final Plate plate;
    private final Tool tool;
    private final Layer lightLayer;
    private final Layer darkLayer;
    private final Cutting cutting;

    public BurinLines() {
        plate = new Plate();
        tool = new Tool();
        lightLayer = new Layer(0);
        darkLayer = new Layer(1);
        cutting = new Cutting();
    }

    // ---- the plate

    public int tone(int x, int y, int v) {
        if (!isCell(x, y)) {
            return UNKNOWN;
        }
        if (!isTone(v)) {
            return OUTSIDE;
        }
        int cell = cellOf(x, y);
        int before = plate.tones[cell];
        plate.tones[cell] = v;
        return before;
    }

    public int shade(int x0, int y0, int x1, int y1, int v) {
        if (!isCell(x0, y0) || !isCell(x1, y1)) {
            return UNKNOWN;
        }
        if (!isTone(v) || x0 > x1 || y0 > y1) {
            return OUTSIDE;
        }
        int changed = 0;
        for (int y = y0; y <= y1; y++) {
            for (int x = x0; x <= x1; x++) {
                int cell = cellOf(x, y);
                if (plate.tones[cell] != v) {
                    plate.tones[cell] = v;
                    changed++;
                }
            }
        }
        return changed;
    }

    public int tell(int x, int y, int turn) {
        if (!isCell(x, y)) {
            return UNKNOWN;
        }
        if (turn < 0 || turn >= TURNS) {
            return OUTSIDE;
        }
        int cell = cellOf(x, y);
        int before = plate.turns[cell];
        plate.turns[cell] = turn;
        plate.told[cell] = true;
        return before;
    }

    public int free(int x, int y) {
        if (!isCell(x, y)) {
            return UNKNOWN;
        }
        int cell = cellOf(x, y);
        if (!plate.told[cell]) {
            return NOT;
        }
        plate.told[cell] = false;
        return 1;
    }

    public int even() {
        return plate.smooth();
    }

    public int at(int x, int y, int what) {
        if (!isCell(x, y)) {
            return UNKNOWN;
        }
        int cell = cellOf(x, y);
        switch (what) {
            case 0:
                return plate.tones[cell];
            case 1:
                return plate.turns[cell];
            case 2:
                return plate.told[cell] ? 1 : 0;
            default:
                return OUTSIDE;
        }
    }

    public int knot(int x, int y) {
        return isBlock(x, y) ? plate.knotOf(x, y) : UNKNOWN;
    }

    // ---- lines

    public int set(int what, int v) {
        return tool.change(what, v);
    }

    public int wanted(int x, int y, int layer) {
        if (!isCell(x, y) || !isLayer(layer)) {
            return UNKNOWN;
        }
        return tool.widthFor(plate.tones[cellOf(x, y)], layer);
    }

    public int width(int x, int y, int layer) {
        if (!isCell(x, y) || !isLayer(layer)) {
            return UNKNOWN;
        }
        return drawnLayer(layer).widths[cellOf(x, y)];
    }

    public int made(int x, int y) {
        if (!isCell(x, y)) {
            return UNKNOWN;
        }
        drawBothLayers();
        return toneMade(cellOf(x, y));
    }

    public int error(int what) {
        if (what != 0 && what != 1) {
            return OUTSIDE;
        }
        drawBothLayers();
        int greatest = 0;
        int together = 0;
        for (int cell = 0; cell < CELLS; cell++) {
            int off = Math.abs(plate.tones[cell] - toneMade(cell));
            greatest = Math.max(greatest, off);
            together += off;
        }
        return what == 0 ? greatest : together;
    }

    // ---- paths

    public int paths(int layer) {
        return isLayer(layer) ? drawnLayer(layer).pathCount : UNKNOWN;
    }

    public int path(int layer, int k, int what) {
        if (!isLayer(layer)) {
            return UNKNOWN;
        }
        Layer drawn = drawnLayer(layer);
        if (k < 0 || k >= drawn.pathCount || k >= CELLS) {
            return UNKNOWN;
        }
        switch (what) {
            case 0:
                return drawn.firsts[k];
            case 1:
                return drawn.lasts[k];
            case 2:
                return drawn.lengths[k];
            case 3:
                return drawn.greatestWidths[k];
            default:
                return OUTSIDE;
        }
    }

    public int cut(int layer, int i) {
        if (!isLayer(layer)) {
            return UNKNOWN;
        }
        cutting.plan(drawnLayer(layer));
        return cutting.has(i) ? cutting.order[i] : OUTSIDE;
    }

    public int begin(int layer, int i) {
        if (!isLayer(layer)) {
            return UNKNOWN;
        }
        cutting.plan(drawnLayer(layer));
        return cutting.has(i) ? cutting.begins[i] : OUTSIDE;
    }

    public int air(int layer) {
        if (!isLayer(layer)) {
            return UNKNOWN;
        }
        cutting.plan(drawnLayer(layer));
        return cutting.wayInAir;
    }

    public int count(int what) {
        switch (what) {
            case 0:
                return plate.countToned();
            case 1:
                return plate.countTold();
            case 2:
                return countStrokes(0);
            case 3:
                return countStrokes(1);
            case 4:
                return plate.countKnots();
            default:
                return OUTSIDE;
        }
    }

    // ---- what the calls share

    private static boolean isCell(int x, int y) {
        return x >= 0 && x < SIDE && y >= 0 && y < SIDE;
    }

    private static boolean isBlock(int x, int y) {
        return x >= 0 && x < SIDE - 1 && y >= 0 && y < SIDE - 1;
    }

    private static boolean isLayer(int layer) {
        return layer == 0 || layer == 1;
    }

    private static boolean isTone(int v) {
        return v >= 0 && v <= GREATEST_TONE;
    }

    private static int cellOf(int x, int y) {
        return SIDE * y + x;
    }

    /** How far the tool goes from one CELL to another. */
    private static int wayBetween(int from, int to) {
        int across = Math.abs(from % SIDE - to % SIDE);
        int down = Math.abs(from / SIDE - to / SIDE);
        return Math.max(across, down);
    }

    private Layer drawnLayer(int number) {
        Layer layer = number == 0 ? lightLayer : darkLayer;
        layer.draw(plate, tool);
        return layer;
    }

    private void drawBothLayers() {
        lightLayer.draw(plate, tool);
        darkLayer.draw(plate, tool);
    }

    /** MADE in a CELL; both layers have to be drawn before. */
    private int toneMade(int cell) {
        return tool.toneOf(lightLayer.widths[cell] + darkLayer.widths[cell]);
    }

    private int countStrokes(int layer) {
        int strokes = 0;
        for (int cell = 0; cell < CELLS; cell++) {
            if (tool.widthFor(plate.tones[cell], layer) > 0) {
                strokes++;
            }
        }
        return strokes;
    }

    /** TONES and TURNS of all CELLS. */
    private static final class Plate {
        final int[] tones = new int[CELLS];
        final int[] turns = new int[CELLS];
        final boolean[] told = new boolean[CELLS];

        int smooth() {
            int goings = 0;
            boolean changed = true;
            while (changed && goings < MOST_GOINGS) {
                changed = goThrough();
                goings++;
            }
            return goings;
        }

        private boolean goThrough() {
            boolean changed = false;
            for (int cell = 0; cell < CELLS; cell++) {
                int turn = told[cell] ? turns[cell] : calmestTurn(cell);
                if (turn != turns[cell]) {
                    turns[cell] = turn;
                    changed = true;
                }
            }
            return changed;
        }

        private int calmestTurn(int cell) {
            // The TURN it has comes first, and only a lesser strain takes its place:
            // so it stays where it is as good, and else the least of several wins.
            int calmest = turns[cell];
            int leastStrain = strain(cell, calmest);
            for (int turn = 0; turn < TURNS; turn++) {
                int itsStrain = strain(cell, turn);
                if (itsStrain < leastStrain) {
                    leastStrain = itsStrain;
                    calmest = turn;
                }
            }
            return calmest;
        }

        private int strain(int cell, int turn) {
            int x = cell % SIDE;
            int y = cell / SIDE;
            return strainAgainst(x - 1, y, turn) + strainAgainst(x + 1, y, turn)
                    + strainAgainst(x, y - 1, turn) + strainAgainst(x, y + 1, turn);
        }

        private int strainAgainst(int x, int y, int turn) {
            if (!isCell(x, y)) {
                return 0;
            }
            return APART_SQUARED[Math.floorMod(turns[cellOf(x, y)] - turn, TURNS)];
        }

        int knotOf(int x, int y) {
            int topLeft = turns[cellOf(x, y)];
            int topRight = turns[cellOf(x + 1, y)];
            int bottomRight = turns[cellOf(x + 1, y + 1)];
            int bottomLeft = turns[cellOf(x, y + 1)];
            int top = growth(topLeft, topRight);
            int right = growth(topRight, bottomRight);
            int bottom = growth(bottomRight, bottomLeft);
            int left = growth(bottomLeft, topLeft);
            // Half of all TURNS could be told as 4 or as -4: there the block is TORN.
            int half = TURNS / 2;
            if (top == half || right == half || bottom == half || left == half) {
                return TORN;
            }
            return (top + right + bottom + left) / TURNS;
        }

        private static int growth(int from, int to) {
            int grown = Math.floorMod(to - from, TURNS);
            return grown > TURNS / 2 ? grown - TURNS : grown;
        }

        int countToned() {
            int toned = 0;
            for (int cell = 0; cell < CELLS; cell++) {
                if (tones[cell] > 0) {
                    toned++;
                }
            }
            return toned;
        }

        int countTold() {
            int found = 0;
            for (int cell = 0; cell < CELLS; cell++) {
                if (told[cell]) {
                    found++;
                }
            }
            return found;
        }

        int countKnots() {
            int knots = 0;
            for (int y = 0; y < SIDE - 1; y++) {
                for (int x = 0; x < SIDE - 1; x++) {
                    int knot = knotOf(x, y);
                    if (knot != 0 && knot != TORN) {
                        knots++;
                    }
                }
            }
            return knots;
        }
    }

    /** What the tool can: S, CROSS, LEAST and SWELL, by the numbers that the call names them with. */
    private static final class Tool {
        private final int[] settings = {10, 60, 1, 40};

        int change(int what, int v) {
            if (what < SPACING || what > SWELL
                    || v < LOWEST_SETTINGS[what] || v > HIGHEST_SETTINGS[what]) {
                return OUTSIDE;
            }
            int before = settings[what];
            settings[what] = v;
            return before;
        }

        int swell() {
            return settings[SWELL];
        }

        /** The WIDTH wanted for a TONE in a LAYER. */
        int widthFor(int tone, int layer) {
            int light = Math.min(tone, settings[CROSS]);
            int share = layer == 0 ? light : tone - light;
            int width = settings[SPACING] * share / 100;
            return width < settings[LEAST] ? 0 : width;
        }

        /** The TONE that lines of a WIDTH make. */
        int toneOf(int width) {
            int spacing = settings[SPACING];
            return spacing > 0 ? 100 * width / spacing : 0;
        }
    }

    /** STROKES and PATHS of one LAYER: drawn anew for each call, in rows that are made once. */
    private static final class Layer {
        private final int number;
        private final int[] wants = new int[CELLS];
        private final int[] ways = new int[CELLS];
        final int[] widths = new int[CELLS];
        final int[] firsts = new int[CELLS];
        final int[] lasts = new int[CELLS];
        final int[] lengths = new int[CELLS];
        final int[] greatestWidths = new int[CELLS];
        int pathCount;

        Layer(int number) {
            this.number = number;
        }

        void draw(Plate plate, Tool tool) {
            for (int cell = 0; cell < CELLS; cell++) {
                wants[cell] = tool.widthFor(plate.tones[cell], number);
                ways[cell] = wayFor(plate.turns[cell]);
                widths[cell] = wants[cell];
            }
            pathCount = 0;
            // Going by the CELLS' numbers finds the PATHS in the order of theirs.
            for (int cell = 0; cell < CELLS; cell++) {
                if (wants[cell] > 0 && tiedTo(cell, BACK) == NONE) {
                    addPath(cell, tool.swell());
                }
            }
        }

        private int wayFor(int turn) {
            int crossed = number == 0 ? turn : turn + TURNS / 2;
            return Math.floorMod(crossed, TURNS) / 2;
        }

        /** The STROKE that a STROKE is TIED to, one WAY on or back; NONE if there is none. */
        private int tiedTo(int cell, int direction) {
            int way = ways[cell];
            int x = cell % SIDE + direction * WAY_X[way];
            int y = cell / SIDE + direction * WAY_Y[way];
            if (!isCell(x, y)) {
                return NONE;
            }
            int other = cellOf(x, y);
            return wants[other] > 0 && ways[other] == way ? other : NONE;
        }

        private void addPath(int first, int swell) {
            if (pathCount >= CELLS) {
                return;
            }
            // Once on and once back is enough: in a row, each WIDTH is bound by its two sides alone.
            int last = limitSwell(first, ON, swell);
            limitSwell(last, BACK, swell);
            firsts[pathCount] = first;
            lasts[pathCount] = last;
            // A row goes straight, one CELL a STROKE.
            lengths[pathCount] = wayBetween(first, last) + 1;
            greatestWidths[pathCount] = greatestWidthFrom(first);
            pathCount++;
        }

        /** Keeps each STROKE of a row within SWELL of the one before it; answers the row's end. */
        private int limitSwell(int start, int direction, int swell) {
            int cell = start;
            for (int step = 1; step < SIDE; step++) {
                int next = tiedTo(cell, direction);
                if (next == NONE) {
                    break;
                }
                widths[next] = Math.min(widths[next], widths[cell] + swell);
                cell = next;
            }
            return cell;
        }

        private int greatestWidthFrom(int first) {
            int greatest = 0;
            int cell = first;
            for (int step = 0; step < SIDE && cell != NONE; step++) {
                greatest = Math.max(greatest, widths[cell]);
                cell = tiedTo(cell, ON);
            }
            return greatest;
        }
    }

    /** ORDER and AIR of the LAYER that was planned last. */
    private static final class Cutting {
        final int[] order = new int[CELLS];
        final int[] begins = new int[CELLS];
        private final boolean[] done = new boolean[CELLS];
        private int planned;
        int wayInAir;

        boolean has(int i) {
            return i >= 0 && i < planned && i < CELLS;
        }

        void plan(Layer layer) {
            for (int k = 0; k < CELLS; k++) {
                done[k] = false;
            }
            planned = 0;
            wayInAir = 0;
            int place = cellOf(0, 0);
            for (int i = 0; i < layer.pathCount && i < CELLS; i++) {
                int k = nearestPath(layer, place);
                if (k == NONE) {
                    return;
                }
                place = cutPath(layer, k, place);
            }
        }

        private int nearestPath(Layer layer, int place) {
            int nearest = NONE;
            int leastWay = SIDE;
            for (int k = 0; k < layer.pathCount && k < CELLS; k++) {
                if (done[k]) {
                    continue;
                }
                int way = Math.min(wayBetween(place, layer.firsts[k]), wayBetween(place, layer.lasts[k]));
                if (way < leastWay) {
                    leastWay = way;
                    nearest = k;
                }
            }
            return nearest;
        }

        /** Answers the CELL at which the tool is then. */
        private int cutPath(Layer layer, int k, int place) {
            if (planned >= CELLS) {
                return place;
            }
            int first = layer.firsts[k];
            int last = layer.lasts[k];
            boolean fromFirst = wayBetween(place, first) <= wayBetween(place, last);
            int start = fromFirst ? first : last;
            order[planned] = k;
            begins[planned] = start;
            planned++;
            wayInAir += wayBetween(place, start);
            done[k] = true;
            return fromFirst ? last : first;
        }
    }
}
