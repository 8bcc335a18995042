/**
 * Fittings of furniture from tables that are told as texts: hinges, slides, doors, holes.
 * What each call promises is told in the project's document.
 */
public final class HingeTables {
    public static final int NONE = -1;

    private static final int MOST_CHARACTERS = 300;
    private static final int MOST_ROWS = 16;
    private static final int MOST_NUMBERS = 6;
    private static final int MOST_DIGITS = 5;
    private static final int MOST_STOCK = 1000;
    private static final int FIRST_STOCK = 9;
    private static final int MOST_COUNT = 9;

    private static final int MOST_OF_DOOR = 10000;
    private static final long MILLION = 1000000L;
    private static final long THOUSAND = 1000L;
    private static final long FOUR_MARGINS = 320L;
    private static final int CORNERS = 4;
    private static final int TURNS = 9;
    /** 65 is the least number that makes all cosines and sines of the turns whole. */
    private static final long TURN_UNIT = 65L;
    private static final int[] COSINES = {65, 60, 52, 39, 25, 0, -25, -39, -52};
    private static final int[] SINES = {0, 25, 39, 52, 60, 65, 60, 52, 39};
    private static final int MOST_DISTANCE = 10000;

    private static final int HOLES = 16;
    private static final int MOST_PLACE = 100000;
    private static final int MOST_RADIUS = 1000;

    private static final int MOST_HEIGHT = 100000;
    private static final int EDGE_OF_ROWS = 37;
    private static final int STEP_OF_ROWS = 32;

    /** Euclid's way needs fewer steps than this for any two longs. */
    private static final int DIVISOR_STEPS = 100;

    private final Text text = new Text();
    private final Door ownDoor = new Door();
    private final Holes holes = new Holes();
    /** Two tables take turns, so that a text that can't be read leaves the one in use as it was. */
    private Table table = new Table();
    private Table spare = new Table();

    public HingeTables() {
    }

    public boolean unit(int u) {
        return text.add(u);
    }

    public int read() {
        int answer = spare.fill(text);
        text.clear();
        if (answer > 0) {
            Table filled = spare;
            spare = table;
            table = filled;
        }
        return answer;
    }

    public int row(int row, int k) throws IllegalStateException, IndexOutOfBoundsException {
        needTable();
        needRow(row);
        if (k == NONE) {
            return table.letter(row);
        }
        if (k < 0 || k >= numbersBehind(table.letter(row))) {
            throw new IndexOutOfBoundsException("no such number");
        }
        return table.number(row, k);
    }

    public boolean stock(int row, int n)
            throws IllegalStateException, IndexOutOfBoundsException, IllegalArgumentException {
        needTable();
        needRow(row);
        if (n < 0 || n > MOST_STOCK) {
            throw new IllegalArgumentException("no such stock");
        }
        return table.changeStock(row, n);
    }

    public int hinge(long overlay, long thick, int angle) throws IllegalStateException {
        needTable();
        return table.firstHinge(overlay, thick, angle);
    }

    public int other(int row, int k)
            throws IllegalStateException, IndexOutOfBoundsException, IllegalArgumentException {
        needTable();
        needRow(row);
        if (k < 0) {
            throw new IndexOutOfBoundsException("k is below 0");
        }
        if (table.letter(row) != 'h') {
            throw new IllegalArgumentException("not a row of a hinge");
        }
        return table.otherHinge(row, k);
    }

    public int slide(long depth) throws IllegalStateException {
        needTable();
        return table.longestSlide(depth);
    }

    public boolean door(long w, long h, long thick2, long density) throws IllegalArgumentException {
        if (!isOfDoor(w) || !isOfDoor(h) || !isOfDoor(thick2) || !isOfDoor(density)) {
            throw new IllegalArgumentException("no such door");
        }
        return ownDoor.change(w, h, thick2, density);
    }

    public long weight(int part) throws IndexOutOfBoundsException {
        needPart(part);
        return partOfFraction(ownDoor.millionWeights(), MILLION, part);
    }

    public int count() throws IllegalStateException {
        needTable();
        return table.hingesOf(ownDoor);
    }

    public long place(int k, int part) throws IllegalStateException, IndexOutOfBoundsException {
        needTable();
        int hinges = table.hingesOf(ownDoor);
        if (hinges == NONE) {
            throw new IllegalStateException("the door is beyond the table");
        }
        if (k < 0 || k >= hinges) {
            throw new IndexOutOfBoundsException("no such hinge");
        }
        needPart(part);
        if (hinges == 1) {
            return partOfFraction(ownDoor.height, 2L, part);
        }
        return partOfFraction(ownDoor.placeNumerator(k, hinges), 4L * (hinges - 1), part);
    }

    public boolean hole(int k, long x, long y, long r)
            throws IndexOutOfBoundsException, IllegalArgumentException {
        needHole(k);
        if (!isWithin(x, -MOST_PLACE, MOST_PLACE) || !isWithin(y, -MOST_PLACE, MOST_PLACE)
                || !isWithin(r, 0, MOST_RADIUS)) {
            throw new IllegalArgumentException("no such hole can be made");
        }
        return holes.change(k, x, y, r);
    }

    public boolean meet(int a, int b) throws IndexOutOfBoundsException {
        needHole(a);
        needHole(b);
        return holes.overlap(a, b);
    }

    public int pair(int k) throws IndexOutOfBoundsException {
        if (k < 0) {
            throw new IndexOutOfBoundsException("k is below 0");
        }
        return holes.overlappingPair(k);
    }

    public int wall(long distance) throws IllegalArgumentException {
        if (!isWithin(distance, -MOST_DISTANCE, MOST_DISTANCE)) {
            throw new IllegalArgumentException("no such distance");
        }
        for (int turn = 0; turn < TURNS; turn++) {
            if (ownDoor.leastX(turn) < -distance * TURN_UNIT) {
                return turn == 0 ? NONE : turn - 1;
            }
        }
        return TURNS - 1;
    }

    public long corner(int corner, int turn, int axis) throws IndexOutOfBoundsException {
        if (corner < 0 || corner >= CORNERS || turn < 0 || turn >= TURNS || axis < 0 || axis > 1) {
            throw new IndexOutOfBoundsException("no such corner, turn or axis");
        }
        return axis == 0 ? ownDoor.turnedX(corner, turn) : ownDoor.turnedY(corner, turn);
    }

    public int rows32(long height, int k) throws IllegalArgumentException {
        if (!isWithin(height, 1, MOST_HEIGHT) || k < NONE) {
            throw new IllegalArgumentException("no such height or row of holes");
        }
        int room = (int) height - 2 * EDGE_OF_ROWS;
        int rows = room < 0 ? 0 : room / STEP_OF_ROWS + 1;
        if (k == NONE) {
            return rows;
        }
        return k < rows ? EDGE_OF_ROWS + STEP_OF_ROWS * k : NONE;
    }

    private void needTable() {
        if (table.size == 0) {
            throw new IllegalStateException("no table was read");
        }
    }

    private void needRow(int row) {
        if (row < 0 || row >= table.size) {
            throw new IndexOutOfBoundsException("no such row");
        }
    }

    private static void needHole(int k) {
        if (k < 0 || k >= HOLES) {
            throw new IndexOutOfBoundsException("no such hole");
        }
    }

    private static void needPart(int part) {
        if (part < 0 || part > 1) {
            throw new IndexOutOfBoundsException("no such part");
        }
    }

    private static boolean isOfDoor(long n) {
        return isWithin(n, 1, MOST_OF_DOOR);
    }

    private static boolean isWithin(long n, int least, int greatest) {
        return n >= least && n <= greatest;
    }

    /** 0 means that no row begins with this letter. */
    private static int numbersBehind(char letter) {
        if (letter == 'h') {
            return MOST_NUMBERS;
        }
        if (letter == 's') {
            return 2;
        }
        return letter == 'c' ? 3 : 0;
    }

    private static long partOfFraction(long numerator, long denominator, int part) {
        long divisor = commonDivisor(numerator, denominator);
        long whole = part == 0 ? numerator : denominator;
        return divisor > 1 ? whole / divisor : whole;
    }

    private static long commonDivisor(long a, long b) {
        long greater = a;
        long lesser = b;
        for (int step = 0; step < DIVISOR_STEPS && lesser > 0; step++) {
            long rest = greater % lesser;
            greater = lesser;
            lesser = rest;
        }
        return greater;
    }

    /** The characters told so far. */
    private static final class Text {
        private final char[] characters = new char[MOST_CHARACTERS];
        private int length;

        boolean add(int u) {
            if (u < 33 || u > 126 || length >= MOST_CHARACTERS) {
                return false;
            }
            characters[length] = (char) u;
            length++;
            return true;
        }

        /** Behind the end stands 0, which fits nowhere: so a fault there is told at the end's place. */
        char at(int place) {
            return place >= 0 && place < length ? characters[place] : 0;
        }

        boolean endsAt(int place) {
            return place == length;
        }

        void clear() {
            length = 0;
        }
    }

    /** The rows of a table, and the reading of them; size 0 means that none was read. */
    private static final class Table {
        private final char[] letters = new char[MOST_ROWS];
        private final int[] numbers = new int[MOST_ROWS * MOST_NUMBERS];
        private final int[] stocks = new int[MOST_ROWS];
        private int size;

        /** Answers how many rows there are, or the fault; after a fault the table is not to be used. */
        int fill(Text text) {
            size = 0;
            int at = 0;
            for (int row = 0; row < MOST_ROWS; row++) {
                if (row > 0) {
                    if (text.endsAt(at)) {
                        return finish(row);
                    }
                    if (text.at(at) != ';') {
                        return fault(at);
                    }
                    at++;
                }
                at = fillRow(text, row, at);
                if (at < 0) {
                    return at;
                }
            }
            return text.endsAt(at) ? finish(MOST_ROWS) : fault(at);
        }

        private int finish(int rows) {
            size = rows;
            for (int row = 0; row < MOST_ROWS; row++) {
                stocks[row] = FIRST_STOCK;
            }
            return rows;
        }

        private static int fault(int place) {
            return -1 - place;
        }

        /** Answers the place behind the row, or the fault (which is below 0). */
        private int fillRow(Text text, int row, int start) {
            char letter = text.at(start);
            int wanted = numbersBehind(letter);
            if (wanted == 0) {
                return fault(start);
            }
            letters[row] = letter;
            int at = start + 1;
            for (int k = 0; k < wanted; k++) {
                if (k > 0) {
                    if (text.at(at) != ',') {
                        return fault(at);
                    }
                    at++;
                }
                at = fillNumber(text, row, k, at);
                if (at < 0) {
                    return at;
                }
            }
            return at;
        }

        /** Answers the place behind the number, or the fault (which is below 0). */
        private int fillNumber(Text text, int row, int k, int start) {
            int value = 0;
            int at = start;
            for (int digit = 0; digit < MOST_DIGITS && isDigit(text.at(at)); digit++) {
                value = 10 * value + (text.at(at) - '0');
                at++;
            }
            if (at == start || !mayStand(row, k, value)) {
                return fault(start);
            }
            numbers[row * MOST_NUMBERS + k] = value;
            return at;
        }

        private static boolean isDigit(char c) {
            return c >= '0' && c <= '9';
        }

        private boolean mayStand(int row, int k, int value) {
            if (letters[row] == 'h' && (k == 1 || k == 3)) {
                return value >= number(row, k - 1);
            }
            if (letters[row] == 'c' && k == 2) {
                return value >= 1 && value <= MOST_COUNT;
            }
            return true;
        }

        char letter(int row) {
            return letters[row];
        }

        int number(int row, int k) {
            return numbers[row * MOST_NUMBERS + k];
        }

        boolean changeStock(int row, int n) {
            boolean another = stocks[row] != n;
            stocks[row] = n;
            return another;
        }

        private boolean isStocked(int row, char letter) {
            return letters[row] == letter && stocks[row] > 0;
        }

        int firstHinge(long overlay, long thick, int angle) {
            for (int row = 0; row < size; row++) {
                if (isStocked(row, 'h') && holds(row, 0, overlay, overlay)
                        && holds(row, 2, thick, thick) && number(row, 4) >= angle) {
                    return row;
                }
            }
            return NONE;
        }

        /** Whether the span whose numbers begin at k holds all from least to greatest. */
        private boolean holds(int row, int k, long least, long greatest) {
            return number(row, k) <= least && greatest <= number(row, k + 1);
        }

        int otherHinge(int row, int k) {
            int left = k;
            for (int candidate = 0; candidate < size; candidate++) {
                if (candidate != row && canReplace(candidate, row)) {
                    if (left == 0) {
                        return candidate;
                    }
                    left--;
                }
            }
            return NONE;
        }

        private boolean canReplace(int candidate, int row) {
            return isStocked(candidate, 'h')
                    && holds(candidate, 0, number(row, 0), number(row, 1))
                    && holds(candidate, 2, number(row, 2), number(row, 3))
                    && number(candidate, 4) >= number(row, 4);
        }

        int longestSlide(long depth) {
            int best = NONE;
            for (int row = 0; row < size; row++) {
                if (isStocked(row, 's') && number(row, 0) <= depth
                        && (best < 0 || number(row, 0) > number(best, 0))) {
                    best = row;
                }
            }
            return best;
        }

        int hingesOf(Door door) {
            for (int row = 0; row < size; row++) {
                if (letters[row] == 'c' && number(row, 0) >= door.height
                        && number(row, 1) * THOUSAND * MILLION >= door.millionWeights()) {
                    return number(row, 2);
                }
            }
            return NONE;
        }
    }

    /** A door's measures; all of them are 1 .. 10000, so that no product of them is too great for a long. */
    private static final class Door {
        private long width = 400L;
        private long height = 700L;
        private long thickness = 19L;
        private long heaviness = 700L;

        boolean change(long w, long h, long t, long d) {
            boolean another = width != w || height != h || thickness != t || heaviness != d;
            width = w;
            height = h;
            thickness = t;
            heaviness = d;
            return another;
        }

        long millionWeights() {
            return width * height * thickness * heaviness;
        }

        /** Over 4 * (hinges - 1), since a margin may be a quarter of the height. */
        long placeNumerator(int k, int hinges) {
            long fourMargins = Math.min(height, FOUR_MARGINS);
            return fourMargins * (hinges - 1) + k * (4L * height - 2L * fourMargins);
        }

        private long shutX(int corner) {
            return corner == 1 || corner == 2 ? width : 0L;
        }

        private long shutY(int corner) {
            return corner >= 2 ? thickness : 0L;
        }

        long turnedX(int corner, int turn) {
            return shutX(corner) * COSINES[turn] - shutY(corner) * SINES[turn];
        }

        long turnedY(int corner, int turn) {
            return shutX(corner) * SINES[turn] + shutY(corner) * COSINES[turn];
        }

        long leastX(int turn) {
            long least = turnedX(0, turn);
            for (int corner = 1; corner < CORNERS; corner++) {
                least = Math.min(least, turnedX(corner, turn));
            }
            return least;
        }
    }

    /** The holes; one whose radius is 0 is not there. */
    private static final class Holes {
        private final int[] xs = new int[HOLES];
        private final int[] ys = new int[HOLES];
        private final int[] radii = new int[HOLES];

        boolean change(int k, long x, long y, long r) {
            // A hole that is not there has no centre, so the one that was told with it is not kept.
            int newX = r == 0 ? 0 : (int) x;
            int newY = r == 0 ? 0 : (int) y;
            boolean another = xs[k] != newX || ys[k] != newY || radii[k] != r;
            xs[k] = newX;
            ys[k] = newY;
            radii[k] = (int) r;
            return another;
        }

        /** Touching from outside is one place in common: too few; from inside, one lies in the other. */
        boolean overlap(int a, int b) {
            if (a == b || radii[a] == 0 || radii[b] == 0) {
                return false;
            }
            long dx = (long) xs[a] - xs[b];
            long dy = (long) ys[a] - ys[b];
            long reach = (long) radii[a] + radii[b];
            return dx * dx + dy * dy < reach * reach;
        }

        int overlappingPair(int k) {
            int left = k;
            for (int a = 0; a < HOLES; a++) {
                for (int b = a + 1; b < HOLES; b++) {
                    if (overlap(a, b)) {
                        if (left == 0) {
                            return HOLES * a + b;
                        }
                        left--;
                    }
                }
            }
            return NONE;
        }
    }
}
