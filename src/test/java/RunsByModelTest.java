import java.math.BigInteger;
import java.util.ArrayList;
import java.util.List;

/**
 * All promises by other means: runs of 512 calls on new objects, each call answered by a model too, which is
 * written with lists and fractions of the Java library, and knows nothing of the class's own ways.
 */
public final class RunsByModelTest {
    private static final int NONE = HingeTables.NONE;
    private static final int RUNS = 1500;
    private static final int CALLS = 512;
    private static final int METHODS = 16;

    private static long seed = 20261116L;
    private static final int[] THROWN = new int[METHODS];
    private static final int[] ANSWERED = new int[METHODS];

    /** A row of numbers that is the same in each run of the test. */
    private static int next(int bound) {
        seed = seed * 6364136223846793005L + 1442695040888963407L;
        return (int) ((seed >>> 33) % bound);
    }

    private static long from(long least, long greatest) {
        return least + next((int) (greatest - least + 1));
    }

    /** Mostly within the bounds, often at one of them, now and then beyond. */
    private static long near(long least, long greatest) {
        switch (next(24)) {
            case 0: return least - 1;
            case 1: return greatest + 1;
            case 2: case 3: return least;
            case 4: case 5: return greatest;
            case 6: return from(least, greatest) + (1L << 32);
            case 7: return next(2) == 0 ? Long.MIN_VALUE : Long.MAX_VALUE;
            default: return from(least, greatest);
        }
    }

    private static int nearInt(int least, int greatest) {
        long n = near(least, greatest);
        return n > Integer.MAX_VALUE ? Integer.MAX_VALUE : n < Integer.MIN_VALUE ? Integer.MIN_VALUE : (int) n;
    }

    public static void main(String[] args) {
        for (int run = 0; run < RUNS; run++) {
            new Run(run).go();
        }
        for (int method = 0; method < METHODS; method++) {
            boolean mayThrow = method != 0;
            Check.yes("method " + method + " answered often enough", ANSWERED[method] > RUNS / 4);
            Check.yes("method " + method + " threw often enough", !mayThrow || THROWN[method] > RUNS / 4);
        }
        Check.end("RunsByModelTest");
    }

    /** What a call of the class or of the model answers; a boolean counts 1 or 0. */
    private interface Answer {
        long get();
    }

    private static final class Run {
        private final int number;
        private final HingeTables real = new HingeTables();
        private final Model model = new Model();
        private int calls = 0;

        Run(int number) {
            this.number = number;
        }

        void go() {
            while (calls < CALLS) {
                if (calls == 0 ? next(4) > 0 : next(60) == 0) {
                    tellAndRead();
                } else {
                    oneCall(next(METHODS));
                }
            }
        }

        private void compare(int method, String call, Answer got, Answer due) {
            if (calls >= CALLS) {
                return;
            }
            calls++;
            String realAnswer = outcome(got);
            String modelAnswer = outcome(due);
            if (method >= 0) {
                (modelAnswer.startsWith("throws") ? THROWN : ANSWERED)[method]++;
            }
            Check.yes("run " + number + ", call " + calls + ": " + call + " answered " + realAnswer + ", due is "
                    + modelAnswer, realAnswer.equals(modelAnswer));
        }

        private static String outcome(Answer answer) {
            try {
                return Long.toString(answer.get());
            } catch (RuntimeException e) {
                return "throws " + e.getClass().getName();
            }
        }

        private void tellAndRead() {
            String text = spoil(table());
            for (char c : text.toCharArray()) {
                unit(c);
            }
            compare(-1, "read() of " + text, () -> real.read(), () -> model.read());
        }

        private void unit(int u) {
            compare(0, "unit(" + u + ")", () -> real.unit(u) ? 1 : 0, () -> model.unit(u) ? 1 : 0);
        }

        private void oneCall(int method) {
            int row = nearInt(0, Math.max(0, model.rows.size() - 1));
            switch (method) {
                case 0 -> {
                    if (next(9) == 0) {
                        unit(nearInt(33, 126));
                    }
                }
                case 1 -> callRow(row, nearInt(NONE, 5));
                case 2 -> callStock(row, next(3) == 0 ? next(2) : nearInt(0, 1000));
                case 3 -> callHinge(near(0, 40), near(0, 40), nearInt(0, 180));
                case 4 -> callOther(row, nearInt(0, 2));
                case 5 -> callSlide(near(0, 60));
                case 6 -> callDoor();
                case 7 -> callWeight(nearInt(0, 1));
                case 8 -> callCount();
                case 9 -> callPlace(nearInt(0, 8), nearInt(0, 1));
                case 10 -> callHole();
                case 11 -> callMeet(nearInt(0, 15), nearInt(0, 15));
                case 12 -> callPair(nearInt(0, 30));
                case 13 -> callWall();
                case 14 -> callCorner(nearInt(0, 3), nearInt(0, 8), nearInt(0, 1));
                default -> callRows32(next(2) == 0 ? from(1, 300) : near(1, 100000), nearInt(NONE, 9));
            }
        }

        private void callRow(int row, int k) {
            compare(1, "row(" + row + ", " + k + ")", () -> real.row(row, k), () -> model.row(row, k));
        }

        private void callStock(int row, int n) {
            compare(2, "stock(" + row + ", " + n + ")", () -> real.stock(row, n) ? 1 : 0,
                    () -> model.stock(row, n) ? 1 : 0);
        }

        private void callHinge(long overlay, long thick, int angle) {
            compare(3, "hinge(" + overlay + ", " + thick + ", " + angle + ")",
                    () -> real.hinge(overlay, thick, angle), () -> model.hinge(overlay, thick, angle));
        }

        private void callOther(int row, int k) {
            compare(4, "other(" + row + ", " + k + ")", () -> real.other(row, k), () -> model.other(row, k));
        }

        private void callSlide(long depth) {
            compare(5, "slide(" + depth + ")", () -> real.slide(depth), () -> model.slide(depth));
        }

        private void callDoor() {
            int greatest = next(2) == 0 ? 400 : 10000;
            long w = next(3) == 0 ? near(1, 10000) : from(1, greatest);
            long h = next(4) == 0 ? near(1, 10000) : from(1, greatest);
            long t = next(4) == 0 ? near(1, 10000) : from(1, greatest);
            long d = next(4) == 0 ? near(1, 10000) : from(1, greatest);
            for (int times = next(3); times >= 0; times--) {
                compare(6, "door(" + w + ", " + h + ", " + t + ", " + d + ")", () -> real.door(w, h, t, d) ? 1 : 0,
                        () -> model.door(w, h, t, d) ? 1 : 0);
            }
        }

        private void callWeight(int part) {
            compare(7, "weight(" + part + ")", () -> real.weight(part), () -> model.weight(part));
        }

        private void callCount() {
            compare(8, "count()", () -> real.count(), () -> model.count());
        }

        private void callPlace(int k, int part) {
            compare(9, "place(" + k + ", " + part + ")", () -> real.place(k, part), () -> model.place(k, part));
        }

        private void callHole() {
            int k = nearInt(0, 15);
            boolean far = next(6) == 0;
            long x = far ? near(-100000, 100000) : from(-12, 12);
            long y = far ? near(-100000, 100000) : from(-12, 12);
            long r = far ? near(0, 1000) : from(0, 7);
            for (int times = next(3); times >= 0; times--) {
                compare(10, "hole(" + k + ", " + x + ", " + y + ", " + r + ")", () -> real.hole(k, x, y, r) ? 1 : 0,
                        () -> model.hole(k, x, y, r) ? 1 : 0);
            }
        }

        private void callMeet(int a, int b) {
            compare(11, "meet(" + a + ", " + b + ")", () -> real.meet(a, b) ? 1 : 0, () -> model.meet(a, b) ? 1 : 0);
        }

        private void callPair(int k) {
            compare(12, "pair(" + k + ")", () -> real.pair(k), () -> model.pair(k));
        }

        private void callWall() {
            long distance = next(2) == 0 ? near(-10000, 10000) : from(-5, 400);
            compare(13, "wall(" + distance + ")", () -> real.wall(distance), () -> model.wall(distance));
        }

        private void callCorner(int corner, int turn, int axis) {
            compare(14, "corner(" + corner + ", " + turn + ", " + axis + ")", () -> real.corner(corner, turn, axis),
                    () -> model.corner(corner, turn, axis));
        }

        private void callRows32(long height, int k) {
            compare(15, "rows32(" + height + ", " + k + ")", () -> real.rows32(height, k),
                    () -> model.rows32(height, k));
        }

        private static String table() {
            StringBuilder text = new StringBuilder();
            int rows = next(12) == 0 ? 15 + next(3) : 1 + next(9);
            for (int row = 0; row < rows; row++) {
                text.append(row == 0 ? "" : ";");
                switch (next(3)) {
                    case 0 -> text.append('s').append(next(60)).append(',').append(next(9));
                    case 1 -> text.append('c').append(next(11000)).append(',').append(next(3) == 0 ? next(9) : next(99999))
                            .append(',').append(1 + next(9));
                    default -> text.append('h').append(span()).append(',').append(span()).append(',')
                            .append(next(181)).append(',').append(next(9));
                }
            }
            return text.toString();
        }

        private static String span() {
            int least = next(12);
            return least + "," + (least + next(28));
        }

        private static String spoil(String text) {
            StringBuilder spoilt = new StringBuilder(text);
            if (next(4) == 0) {
                int place = next(spoilt.length());
                spoilt.setCharAt(place, "hsc0123456789,;x".charAt(next(16)));
            }
            if (next(8) == 0) {
                spoilt.setLength(next(spoilt.length()));
            }
            return spoilt.toString();
        }
    }

    private record Fraction(BigInteger above, BigInteger below) implements Comparable<Fraction> {
        static Fraction of(long above, long below) {
            return new Fraction(BigInteger.valueOf(above), BigInteger.valueOf(below)).shortened();
        }

        private Fraction shortened() {
            BigInteger common = above.gcd(below);
            return new Fraction(above.divide(common), below.divide(common));
        }

        Fraction plus(Fraction f) {
            return new Fraction(above.multiply(f.below).add(f.above.multiply(below)), below.multiply(f.below))
                    .shortened();
        }

        Fraction times(Fraction f) {
            return new Fraction(above.multiply(f.above), below.multiply(f.below)).shortened();
        }

        @Override
        public int compareTo(Fraction f) {
            return above.multiply(f.below).compareTo(f.above.multiply(below));
        }

        long part(int part) {
            if (part != 0 && part != 1) {
                throw new IndexOutOfBoundsException();
            }
            return (part == 0 ? above : below).longValueExact();
        }
    }

    private static final class Row {
        final char letter;
        final List<Integer> numbers = new ArrayList<>();
        int stock = 9;

        Row(char letter) {
            this.letter = letter;
        }

        int wanted() {
            return letter == 'h' ? 6 : letter == 's' ? 2 : 3;
        }

        boolean has(char wantedLetter) {
            return letter == wantedLetter && stock > 0;
        }
    }

    private static final class Model {
        private static final Fraction[][] TURNS = {
            {Fraction.of(1, 1), Fraction.of(0, 1)}, {Fraction.of(12, 13), Fraction.of(5, 13)},
            {Fraction.of(4, 5), Fraction.of(3, 5)}, {Fraction.of(3, 5), Fraction.of(4, 5)},
            {Fraction.of(5, 13), Fraction.of(12, 13)}, {Fraction.of(0, 1), Fraction.of(1, 1)},
            {Fraction.of(-5, 13), Fraction.of(12, 13)}, {Fraction.of(-3, 5), Fraction.of(4, 5)},
            {Fraction.of(-4, 5), Fraction.of(3, 5)}};

        private List<Row> rows = new ArrayList<>();
        private String text = "";
        private List<Long> door = List.of(400L, 700L, 19L, 700L);
        private final List<List<Long>> holes = new ArrayList<>();

        Model() {
            for (int k = 0; k < 16; k++) {
                holes.add(List.of());
            }
        }

        boolean unit(int u) {
            boolean taken = text.length() < 300 && u >= 33 && u <= 126;
            text += taken ? String.valueOf((char) u) : "";
            return taken;
        }

        /** Character by character, with 0 for the text's end. */
        int read() {
            String all = text + '\0';
            text = "";
            List<Row> found = new ArrayList<>();
            Row row = null;
            String digits = "";
            for (int i = 0; i < all.length(); i++) {
                char c = all.charAt(i);
                if (row == null) {
                    if ("hsc".indexOf(c) < 0) {
                        return -1 - i;
                    }
                    row = new Row(c);
                } else if (Character.isDigit(c) && digits.length() < 5) {
                    digits += c;
                } else {
                    if (digits.isEmpty()) {
                        return -1 - i;
                    }
                    row.numbers.add(Integer.valueOf(digits));
                    if (lastIsWrong(row)) {
                        return -1 - (i - digits.length());
                    }
                    digits = "";
                    boolean whole = row.numbers.size() == row.wanted();
                    if (whole && c == '\0') {
                        found.add(row);
                        rows = found;
                        return rows.size();
                    } else if (whole && c == ';' && found.size() < 15) {
                        found.add(row);
                        row = null;
                    } else if (whole || c != ',') {
                        return -1 - i;
                    }
                }
            }
            throw new AssertionError("a text has an end");
        }

        private static boolean lastIsWrong(Row row) {
            int k = row.numbers.size() - 1;
            int last = row.numbers.get(k);
            return row.letter == 'h' && (k == 1 || k == 3) && last < row.numbers.get(k - 1)
                    || row.letter == 'c' && k == 2 && (last == 0 || last >= 10);
        }

        private void table() {
            if (rows.isEmpty()) {
                throw new IllegalStateException();
            }
        }

        private Row rowAt(int row) {
            table();
            if (row < 0 || row >= rows.size()) {
                throw new IndexOutOfBoundsException();
            }
            return rows.get(row);
        }

        int row(int row, int k) {
            Row r = rowAt(row);
            if (k < -1 || k >= r.numbers.size()) {
                throw new IndexOutOfBoundsException();
            }
            return k == -1 ? r.letter : r.numbers.get(k);
        }

        boolean stock(int row, int n) {
            Row r = rowAt(row);
            if (n < 0 || n > 1000) {
                throw new IllegalArgumentException();
            }
            int before = r.stock;
            r.stock = n;
            return before != n;
        }

        int hinge(long overlay, long thick, int angle) {
            table();
            for (Row r : rows) {
                if (r.has('h') && overlay >= r.numbers.get(0) && overlay <= r.numbers.get(1)
                        && thick >= r.numbers.get(2) && thick <= r.numbers.get(3) && r.numbers.get(4) >= angle) {
                    return rows.indexOf(r);
                }
            }
            return NONE;
        }

        int other(int row, int k) {
            Row r = rowAt(row);
            if (k < 0) {
                throw new IndexOutOfBoundsException();
            }
            if (r.letter != 'h') {
                throw new IllegalArgumentException();
            }
            List<Integer> others = new ArrayList<>();
            for (int i = 0; i < rows.size(); i++) {
                Row o = rows.get(i);
                if (o != r && o.has('h') && o.numbers.get(0) <= r.numbers.get(0)
                        && o.numbers.get(1) >= r.numbers.get(1) && o.numbers.get(2) <= r.numbers.get(2)
                        && o.numbers.get(3) >= r.numbers.get(3) && o.numbers.get(4) >= r.numbers.get(4)) {
                    others.add(i);
                }
            }
            return k < others.size() ? others.get(k) : NONE;
        }

        int slide(long depth) {
            table();
            int longest = rows.stream().filter(r -> r.has('s') && r.numbers.get(0) <= depth)
                    .mapToInt(r -> r.numbers.get(0)).max().orElse(NONE);
            for (int i = 0; i < rows.size(); i++) {
                if (longest >= 0 && rows.get(i).has('s') && rows.get(i).numbers.get(0) == longest) {
                    return i;
                }
            }
            return NONE;
        }

        boolean door(long w, long h, long t, long d) {
            List<Long> before = door;
            List<Long> now = List.of(w, h, t, d);
            if (now.stream().anyMatch(n -> n < 1 || n > 10000)) {
                throw new IllegalArgumentException();
            }
            door = now;
            return !before.equals(now);
        }

        private Fraction grams() {
            return Fraction.of(door.get(0) * door.get(1), 1000).times(Fraction.of(door.get(2) * door.get(3), 1000));
        }

        long weight(int part) {
            return grams().part(part);
        }

        int count() {
            table();
            for (Row r : rows) {
                if (r.letter == 'c' && r.numbers.get(0) >= door.get(1)
                        && Fraction.of(r.numbers.get(1) * 1000L, 1).compareTo(grams()) >= 0) {
                    return r.numbers.get(2);
                }
            }
            return NONE;
        }

        long place(int k, int part) {
            int count = count();
            if (count == NONE) {
                throw new IllegalStateException();
            }
            if (k < 0 || k >= count) {
                throw new IndexOutOfBoundsException();
            }
            long height = door.get(1);
            if (count == 1) {
                return Fraction.of(height, 2).part(part);
            }
            Fraction margin = height < 320 ? Fraction.of(height, 4) : Fraction.of(80, 1);
            Fraction room = Fraction.of(height, 1).plus(margin.times(Fraction.of(-2, 1)));
            return margin.plus(room.times(Fraction.of(k, count - 1))).part(part);
        }

        private List<Long> holeAt(int k) {
            if (k < 0 || k > 15) {
                throw new IndexOutOfBoundsException();
            }
            return holes.get(k);
        }

        boolean hole(int k, long x, long y, long r) {
            List<Long> before = holeAt(k);
            if (x < -100000 || x > 100000 || y < -100000 || y > 100000 || r < 0 || r > 1000) {
                throw new IllegalArgumentException();
            }
            holes.set(k, r == 0 ? List.of() : List.of(x, y, r));
            return !before.equals(holes.get(k));
        }

        boolean meet(int a, int b) {
            List<Long> one = holeAt(a);
            List<Long> two = holeAt(b);
            if (a == b || one.isEmpty() || two.isEmpty()) {
                return false;
            }
            long x = one.get(0) - two.get(0);
            long y = one.get(1) - two.get(1);
            long apart = x * x + y * y;
            long sum = one.get(2) + two.get(2);
            long difference = one.get(2) - two.get(2);
            boolean twoPlaces = apart > difference * difference && apart < sum * sum;
            boolean within = apart <= difference * difference;
            return twoPlaces || within;
        }

        int pair(int k) {
            if (k < 0) {
                throw new IndexOutOfBoundsException();
            }
            List<Integer> pairs = new ArrayList<>();
            for (int both = 0; both < 256; both++) {
                if (both / 16 < both % 16 && meet(both / 16, both % 16)) {
                    pairs.add(both);
                }
            }
            return k < pairs.size() ? pairs.get(k) : NONE;
        }

        private Fraction turned(int corner, int turn, int axis) {
            long[] xs = {0, door.get(0), door.get(0), 0};
            long[] ys = {0, 0, door.get(2), door.get(2)};
            Fraction x = Fraction.of(xs[corner], 1);
            Fraction y = Fraction.of(ys[corner], 1);
            Fraction cosine = TURNS[turn][0];
            Fraction sine = TURNS[turn][1];
            return axis == 0 ? x.times(cosine).plus(y.times(sine).times(Fraction.of(-1, 1)))
                    : x.times(sine).plus(y.times(cosine));
        }

        int wall(long distance) {
            if (distance < -10000 || distance > 10000) {
                throw new IllegalArgumentException();
            }
            Fraction wall = Fraction.of(-distance, 1);
            int opened = NONE;
            for (int turn = 0; turn < 9 && opened == turn - 1; turn++) {
                boolean free = true;
                for (int corner = 0; corner < 4; corner++) {
                    free &= turned(corner, turn, 0).compareTo(wall) >= 0;
                }
                opened = free ? turn : opened;
            }
            return opened;
        }

        long corner(int corner, int turn, int axis) {
            if (corner < 0 || corner > 3 || turn < 0 || turn > 8 || axis < 0 || axis > 1) {
                throw new IndexOutOfBoundsException();
            }
            Fraction times65 = turned(corner, turn, axis).times(Fraction.of(65, 1));
            return times65.above().longValueExact() / times65.below().longValueExact();
        }

        int rows32(long height, int k) {
            if (height < 1 || height > 100000 || k < -1) {
                throw new IllegalArgumentException();
            }
            List<Integer> places = new ArrayList<>();
            for (int place = 37; place + 37 <= height; place += 32) {
                places.add(place);
            }
            return k == -1 ? places.size() : k < places.size() ? places.get(k) : NONE;
        }
    }
}
