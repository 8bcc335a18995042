import java.math.BigInteger;

/** Promises 9 to 12, 16 and 17: door, weight, count, place, wall, corner: a method for each sentence. */
public final class DoorTest {
    private static final int NONE = HingeTables.NONE;
    private static final int[] WRONG_PARTS = {-1, 2, 65536, Integer.MIN_VALUE, Integer.MAX_VALUE};

    public static void main(String[] args) {
        doorIsAnother();
        doorMeasures();
        weightsExactly();
        weightsWithoutCommonDivisor();
        partsOfWeights();
        countByHeight();
        countByGrams();
        countOfFirstRow();
        countWhateverTheStock();
        countBeyondTheTable();
        countWithoutATable();
        marginFromBothEnds();
        marginBelow320();
        othersEvenlyBetween();
        oneAloneInTheMiddle();
        placesByOtherMeans();
        placesWithoutCount();
        noSuchHingeOrPart();
        cornersAtTurns();
        cornersOfTheFirstDoor();
        noSuchCornerTurnAxis();
        wallGreatestTurn();
        wallTouched();
        wallOfLesserTurns();
        wallBeyondEvenShut();
        wallDistances();
        wallsByCorners();
        Check.end("DoorTest");
    }

    private static void doorIsAnother() {
        Check.sentence("door: whether something is another one");
        HingeTables x = new HingeTables();
        Check.no("the first door", x.door(400, 700, 19, 700));
        Check.yes("another width", x.door(401, 700, 19, 700));
        Check.yes("another height", x.door(401, 701, 19, 700));
        Check.yes("another thickness", x.door(401, 701, 20, 700));
        Check.yes("another density", x.door(401, 701, 20, 701));
        Check.no("the same door", x.door(401, 701, 20, 701));
        Check.yes("all are others", x.door(1, 2, 3, 4));
        Check.yes("the same numbers elsewhere", x.door(4, 3, 2, 1));
        Check.no("that door again", x.door(4, 3, 2, 1));
    }

    private static void doorMeasures() {
        Check.sentence("A DOOR has WIDTH, HEIGHT, THICK (1 .. 10000) and DENSITY (1 .. 10000)");
        HingeTables x = new HingeTables();
        Check.yes("the least door", x.door(1, 1, 1, 1));
        Check.yes("the greatest door", x.door(10000, 10000, 10000, 10000));
        long[] wrong = {0, -1, 10001, Long.MIN_VALUE, Long.MAX_VALUE, (1L << 32) + 5, 5 - (1L << 32), 65536 + 5};
        for (long w : wrong) {
            Check.fails("width " + w, Check.ARGUMENT, () -> x.door(w, 5, 5, 5));
            Check.fails("height " + w, Check.ARGUMENT, () -> x.door(5, w, 5, 5));
            Check.fails("thickness " + w, Check.ARGUMENT, () -> x.door(5, 5, w, 5));
            Check.fails("density " + w, Check.ARGUMENT, () -> x.door(5, 5, 5, w));
            Check.fails("all " + w, Check.ARGUMENT, () -> x.door(w, w, w, w));
        }
        Check.no("what throws changes nothing", x.door(10000, 10000, 10000, 10000));
    }

    private static void weighs(HingeTables x, long numerator, long denominator) {
        Check.same("weight(0)", x.weight(0), numerator);
        Check.same("weight(1)", x.weight(1), denominator);
    }

    private static void weightsExactly() {
        Check.sentence("Its WEIGHT is the product of all four by a million, in grams, exactly");
        HingeTables x = new HingeTables();
        weighs(x, 3724, 1);
        x.door(1, 1, 1, 1);
        weighs(x, 1, 1000000);
        x.door(10000, 10000, 10000, 10000);
        weighs(x, 10000000000L, 1);
        x.door(9999, 9999, 9999, 9999);
        weighs(x, 9999L * 9999 * 9999 * 9999, 1000000);
        // The product of these is 2 to the 32nd, which is 0 in an int.
        x.door(256, 256, 256, 256);
        weighs(x, 67108864, 15625);
    }

    private static void weightsWithoutCommonDivisor() {
        Check.sentence("weight: its numerator, its denominator, without a common divisor");
        HingeTables x = new HingeTables();
        x.door(3, 10, 25, 2);
        weighs(x, 3, 2000);
        x.door(7, 1, 1, 1);
        weighs(x, 7, 1000000);
        x.door(2, 1, 1, 1);
        weighs(x, 1, 500000);
        x.door(1, 5, 1, 1);
        weighs(x, 1, 200000);
        x.door(1000, 1000, 1, 1);
        weighs(x, 1, 1);
        long[] sizes = {1, 2, 5, 64, 625, 999, 1024, 3125, 10000};
        for (long w : sizes) {
            for (long h : sizes) {
                x = new HingeTables();
                x.door(w, h, 19, 7);
                BigInteger product = BigInteger.valueOf(w * h * 133);
                BigInteger common = product.gcd(BigInteger.valueOf(1000000));
                weighs(x, w * h * 133 / common.longValue(), 1000000 / common.longValue());
            }
        }
    }

    private static void partsOfWeights() {
        Check.sentence("weight: numerator (part = 0), denominator (1); IndexOutOfBoundsException");
        HingeTables x = new HingeTables();
        for (int part : WRONG_PARTS) {
            Check.fails("weight(" + part + ")", Check.INDEX, () -> x.weight(part));
        }
    }

    private static HingeTables counting() {
        return Check.with("h1,2,3,4,5,6;c900,9,2;c1600,20,3;s1,2;c1600,20,7;c2400,30,5", 6);
    }

    private static void countByHeight() {
        Check.sentence("COUNT of a door: c row whose height is at least the door's");
        HingeTables x = counting();
        int[][] due = {{1, 2}, {899, 2}, {900, 2}, {901, 3}, {1599, 3}, {1600, 3}, {1601, 5}, {2400, 5}, {2401, NONE},
            {10000, NONE}};
        for (int[] d : due) {
            x.door(1, d[0], 1, 1);
            Check.same("count() at height " + d[0], x.count(), d[1]);
        }
        HingeTables y = Check.with("c10000,1,4", 1);
        y.door(1, 10000, 1, 1);
        Check.same("height 10000", y.count(), 4);
        Check.same("height 0 in the table", Check.with("c0,99999,4", 1).count(), NONE);
    }

    private static void countByGrams() {
        Check.sentence("COUNT of a door: c row whose grams (in thousands) are at least the door's");
        HingeTables x = counting();
        x.door(900, 100, 100, 1000);
        Check.same("9000 grams", x.count(), 2);
        x.door(9000, 500, 2, 1000);
        Check.same("9000 grams otherwise", x.count(), 2);
        x.door(9001, 500, 2, 1000);
        Check.same("9001 grams", x.count(), 3);
        x.door(3943, 1, 2322, 983);
        Check.same("9000.000018 grams", x.count(), 3);
        x.door(1579, 131, 190, 229);
        Check.same("8999.99999 grams", x.count(), 2);
        x.door(6000, 500, 10, 1000);
        Check.same("30000 grams", x.count(), 5);
        x.door(6001, 500, 10, 1000);
        Check.same("30005 grams", x.count(), NONE);
        HingeTables y = Check.with("c99999,99999,9", 1);
        y.door(10000, 9999, 10000, 100);
        Check.same("99990000 grams", y.count(), 9);
        y.door(10000, 10000, 10000, 100);
        Check.same("100000000 grams", y.count(), NONE);
        y.door(10000, 10000, 10000, 10000);
        Check.same("the greatest door", y.count(), NONE);
    }

    private static void countOfFirstRow() {
        Check.sentence("COUNT of a door: that of the first c row");
        HingeTables x = counting();
        x.door(1, 901, 1, 1);
        Check.same("of two the first", x.count(), 3);
        HingeTables y = Check.with("c9999,9999,8;c900,9,2", 2);
        Check.same("a greater row that stands first", y.count(), 8);
        // Height and grams must be enough in one and the same row.
        HingeTables z = Check.with("c9999,1,1;c1,9999,2;c700,4,6", 3);
        Check.same("both in one row", z.count(), 6);
    }

    private static void countWhateverTheStock() {
        Check.sentence("COUNT of a door: that of the first c row (with no word of STOCK)");
        HingeTables x = counting();
        x.stock(1, 0);
        Check.same("row 1 without stock", x.count(), 2);
        x.door(1, 901, 1, 1);
        x.stock(2, 0);
        Check.same("row 2 without stock", x.count(), 3);
    }

    private static void countBeyondTheTable() {
        Check.sentence("count: NONE beyond the table");
        Check.same("no c row", Check.with("s900,99;h700,800,900,999,5,5", 2).count(), NONE);
        Check.same("0 grams are too few", Check.with("c99999,0,1", 1).count(), NONE);
        Check.same("a height too small by one", Check.with("c699,99999,1", 1).count(), NONE);
        Check.same("grams too few", Check.with("c700,3,1", 1).count(), NONE);
        Check.same("just enough", Check.with("c700,4,1", 1).count(), 1);
        HingeTables x = Check.with("c1,0,1", 1);
        x.door(1, 1, 1, 1);
        Check.same("a millionth of a gram is above 0", x.count(), NONE);
    }

    private static void countWithoutATable() {
        Check.sentence("count: IllegalStateException: no table was read");
        HingeTables x = new HingeTables();
        Check.fails("count() of a new object", Check.STATE, () -> x.count());
        Check.same("a fault", Check.readText(x, "c700,4,0"), -8);
        Check.fails("count() after a fault", Check.STATE, () -> x.count());
    }

    private static void fraction(HingeTables x, int k, long numerator, long denominator) {
        Check.same("place(" + k + ", 0)", x.place(k, 0), numerator);
        Check.same("place(" + k + ", 1)", x.place(k, 1), denominator);
    }

    private static void marginFromBothEnds() {
        Check.sentence("HINGES of a door stand at MARGIN 80 from both ends");
        HingeTables x = Check.with("c10000,99999,2", 1);
        fraction(x, 0, 80, 1);
        fraction(x, 1, 620, 1);
        x.door(1, 320, 1, 1);
        fraction(x, 0, 80, 1);
        fraction(x, 1, 240, 1);
        x.door(1, 321, 1, 1);
        fraction(x, 0, 80, 1);
        fraction(x, 1, 241, 1);
        x.door(1, 10000, 1, 1);
        fraction(x, 0, 80, 1);
        fraction(x, 1, 9920, 1);
    }

    private static void marginBelow320() {
        Check.sentence("HINGES of a door stand at HEIGHT / 4, if HEIGHT is below 320");
        HingeTables x = Check.with("c10000,99999,2", 1);
        x.door(1, 319, 1, 1);
        fraction(x, 0, 319, 4);
        fraction(x, 1, 957, 4);
        x.door(1, 318, 1, 1);
        fraction(x, 0, 159, 2);
        fraction(x, 1, 477, 2);
        x.door(1, 316, 1, 1);
        fraction(x, 0, 79, 1);
        fraction(x, 1, 237, 1);
        x.door(1, 1, 1, 1);
        fraction(x, 0, 1, 4);
        fraction(x, 1, 3, 4);
    }

    private static void othersEvenlyBetween() {
        Check.sentence("HINGES of a door: the others evenly between, told as a fraction without a common divisor");
        HingeTables x = Check.with("c5000,99999,3", 1);
        fraction(x, 0, 80, 1);
        fraction(x, 1, 350, 1);
        fraction(x, 2, 620, 1);
        x.door(1, 321, 1, 1);
        fraction(x, 1, 321, 2);
        x.door(1, 319, 1, 1);
        fraction(x, 1, 319, 2);
        HingeTables nine = Check.with("c10000,99999,9", 1);
        nine.door(1, 161 + 160, 1, 1);
        fraction(nine, 1, 8 * 80 + 161, 8);
        fraction(nine, 2, 4 * 80 + 161, 4);
        fraction(nine, 4, 321, 2);
        fraction(nine, 8, 241, 1);
        nine.door(1, 1, 1, 1);
        fraction(nine, 1, 5, 16);
        fraction(nine, 7, 11, 16);
    }

    private static void oneAloneInTheMiddle() {
        Check.sentence("HINGES of a door: (one alone in the middle)");
        HingeTables one = Check.with("c10000,99999,1", 1);
        int[][] due = {{700, 350, 1}, {1, 1, 2}, {2, 1, 1}, {319, 319, 2}, {320, 160, 1}, {321, 321, 2}, {9999, 9999, 2},
            {10000, 5000, 1}};
        for (int[] d : due) {
            one.door(1, d[0], 1, 1);
            fraction(one, 0, d[1], d[2]);
        }
        Check.fails("a second of one", Check.INDEX, () -> one.place(1, 0));
    }

    /** Margin and gap are added as fractions by hand here, for all counts and many heights. */
    private static void placesByOtherMeans() {
        Check.sentence("place: Where hinge k of the door stands, from its lower end: numerator, denominator");
        for (int count = 2; count <= 9; count++) {
            HingeTables x = Check.with("c99999,99999," + count, 1);
            int[] heights = {1, 2, 3, 4, 7, 100, 301, 318, 319, 320, 321, 322, 1000, 2399, 9999, 10000};
            for (int h : heights) {
                x.door(1, h, 1, 1);
                for (int k = 0; k < count; k++) {
                    long below = 4L * (count - 1);
                    long above = h < 320 ? h * (count - 1L) + 2L * k * h
                            : 4L * (80L * (count - 1) + k * (h - 160L));
                    long common = BigInteger.valueOf(above).gcd(BigInteger.valueOf(below)).longValue();
                    Check.same("place of " + k + " of " + count + " at " + h, x.place(k, 0), above / common);
                    Check.same("place below of " + k + " of " + count + " at " + h, x.place(k, 1), below / common);
                }
            }
        }
    }

    private static void placesWithoutCount() {
        Check.sentence("place: IllegalStateException: no table, or COUNT is NONE (first)");
        HingeTables none = new HingeTables();
        Check.fails("place(0, 0) without a table", Check.STATE, () -> none.place(0, 0));
        Check.fails("place(-1, 5) without a table", Check.STATE, () -> none.place(-1, 5));
        HingeTables x = Check.with("c5000,99999,3", 1);
        x.door(1, 5001, 1, 1);
        Check.fails("place(0, 0) beyond the table", Check.STATE, () -> x.place(0, 0));
        Check.fails("place(3, 0) beyond the table", Check.STATE, () -> x.place(3, 0));
        Check.fails("place(0, 2) beyond the table", Check.STATE, () -> x.place(0, 2));
        Check.fails("place(-1, -1) beyond the table", Check.STATE, () -> x.place(-1, -1));
        x.door(1, 5000, 1, 1);
        Check.same("place(0, 0) within the table again", x.place(0, 0), 80);
        HingeTables y = Check.with("s1,2;h1,2,3,4,5,6", 2);
        Check.fails("place(0, 0) of a table without a c row", Check.STATE, () -> y.place(0, 0));
    }

    private static void noSuchHingeOrPart() {
        Check.sentence("place: IndexOutOfBoundsException: no such hinge, part");
        for (int count = 1; count <= 9; count++) {
            HingeTables x = Check.with("c5000,99999," + count, 1);
            int[] wrong = {count, count + 1, -1, 65536, Integer.MIN_VALUE, Integer.MAX_VALUE};
            for (int k : wrong) {
                Check.fails("place(" + k + ", 0) of " + count, Check.INDEX, () -> x.place(k, 0));
                Check.fails("place(" + k + ", 1) of " + count, Check.INDEX, () -> x.place(k, 1));
            }
            for (int part : WRONG_PARTS) {
                Check.fails("place(0, " + part + ") of " + count, Check.INDEX, () -> x.place(0, part));
            }
            Check.yes("the last of " + count, x.place(count - 1, 0) > 0);
        }
    }

    private static void cornersAtTurns() {
        Check.sentence("TURNS 0 .. 8 are angles by cosine and sine; turned, x, y go to x * cosine - y * sine, "
                + "x * sine + y * cosine");
        // Behind each turn: cosine and sine, each as numerator and denominator, as the document has them.
        int[][] turns = {{1, 1, 0, 1}, {12, 13, 5, 13}, {4, 5, 3, 5}, {3, 5, 4, 5}, {5, 13, 12, 13}, {0, 1, 1, 1},
            {-5, 13, 12, 13}, {-3, 5, 4, 5}, {-4, 5, 3, 5}};
        long[][] doors = {{400, 19}, {1, 1}, {10000, 10000}, {37, 9999}, {1, 10000}, {10000, 1}};
        for (long[] d : doors) {
            HingeTables x = new HingeTables();
            x.door(d[0], 5, d[1], 5);
            long[][] shut = {{0, 0}, {d[0], 0}, {d[0], d[1]}, {0, d[1]}};
            for (int turn = 0; turn < 9; turn++) {
                long cosine = 65L / turns[turn][1] * turns[turn][0];
                long sine = 65L / turns[turn][3] * turns[turn][2];
                for (int corner = 0; corner < 4; corner++) {
                    String what = "corner " + corner + " at turn " + turn + " of " + d[0] + " by " + d[1];
                    Check.same(what + ", x", x.corner(corner, turn, 0),
                            shut[corner][0] * cosine - shut[corner][1] * sine);
                    Check.same(what + ", y", x.corner(corner, turn, 1),
                            shut[corner][0] * sine + shut[corner][1] * cosine);
                }
            }
        }
    }

    private static void cornersOfTheFirstDoor() {
        Check.sentence("corner: a corner 0 .. 3 (0, 0; WIDTH, 0; WIDTH, THICK; 0, THICK), times 65");
        HingeTables x = new HingeTables();
        long[][] shut = {{0, 0}, {26000, 0}, {26000, 1235}, {0, 1235}};
        long[][] open = {{0, 0}, {0, 26000}, {-1235, 26000}, {-1235, 0}};
        long[][] last = {{0, 0}, {-20800, 15600}, {-21541, 14612}, {-741, -988}};
        for (int corner = 0; corner < 4; corner++) {
            for (int axis = 0; axis < 2; axis++) {
                Check.same("shut, corner " + corner + " axis " + axis, x.corner(corner, 0, axis), shut[corner][axis]);
                Check.same("open, corner " + corner + " axis " + axis, x.corner(corner, 5, axis), open[corner][axis]);
                Check.same("last, corner " + corner + " axis " + axis, x.corner(corner, 8, axis), last[corner][axis]);
            }
        }
    }

    private static void noSuchCornerTurnAxis() {
        Check.sentence("corner: IndexOutOfBoundsException: no such corner, turn, axis");
        HingeTables x = new HingeTables();
        int[][] wrong = {{-1, 0, 0}, {4, 0, 0}, {0, -1, 0}, {0, 9, 0}, {0, 0, -1}, {0, 0, 2}, {4, 9, 2}, {-1, -1, -1},
            {65536, 0, 0}, {0, 65536, 0}, {0, 0, 65536}, {Integer.MAX_VALUE, 0, 0}, {0, Integer.MAX_VALUE, 0},
            {0, 0, Integer.MAX_VALUE}, {Integer.MIN_VALUE, 0, 0}, {0, Integer.MIN_VALUE, 0},
            {0, 0, Integer.MIN_VALUE}};
        for (int[] w : wrong) {
            Check.fails("corner(" + w[0] + ", " + w[1] + ", " + w[2] + ")", Check.INDEX,
                    () -> x.corner(w[0], w[1], w[2]));
        }
    }

    private static void wallGreatestTurn() {
        Check.sentence("wall: The greatest turn by which the DOOR OPENS beside a wall");
        HingeTables x = new HingeTables();
        Check.same("a wall at the door", x.wall(0), 0);
        Check.same("wall(7): 19 * 5 / 13 is 7.3", x.wall(7), 0);
        Check.same("wall(8): 19 * 3 / 5 is 11.4", x.wall(8), 1);
        Check.same("wall(11)", x.wall(11), 1);
        Check.same("wall(12): 19 * 4 / 5 is 15.2", x.wall(12), 2);
        Check.same("wall(15)", x.wall(15), 2);
        Check.same("wall(16): 19 * 12 / 13 is 17.5", x.wall(16), 3);
        Check.same("wall(17)", x.wall(17), 3);
        Check.same("wall(18)", x.wall(18), 4);
        Check.same("wall(171): 400 * 5 / 13 + 17.5 is 171.4", x.wall(171), 5);
        Check.same("wall(172)", x.wall(172), 6);
        Check.same("wall(255): 400 * 3 / 5 + 15.2 is 255.2", x.wall(255), 6);
        Check.same("wall(256)", x.wall(256), 7);
        Check.same("wall(331): 400 * 4 / 5 + 11.4 is 331.4", x.wall(331), 7);
        Check.same("wall(332)", x.wall(332), 8);
        Check.same("wall(10000)", x.wall(10000), 8);
    }

    private static void wallTouched() {
        Check.sentence("OPENS: no corner lies beyond the wall (one at it does not)");
        HingeTables x = new HingeTables();
        Check.same("shut at the wall", x.wall(0), 0);
        Check.same("19 at turn 5 touches", x.wall(19), 5);
        // Every turn of this one touches at a whole number: 1300 times each sine, and 650 times the cosine more.
        x.door(650, 5, 1300, 5);
        long[] touches = {0, 500, 780, 1040, 1200, 1300, 1200 + 250, 1040 + 390, 780 + 520};
        Check.same("500 at turn 1 touches", x.wall(touches[1]), 1);
        Check.same("499 at turn 1 is beyond", x.wall(touches[1] - 1), 0);
        Check.same("780 at turn 2 touches", x.wall(touches[2]), 2);
        Check.same("779 at turn 2 is beyond", x.wall(touches[2] - 1), 1);
        Check.same("1040 at turn 3 touches", x.wall(touches[3]), 3);
        Check.same("1039 at turn 3 is beyond", x.wall(touches[3] - 1), 2);
        Check.same("1200 at turn 4 touches", x.wall(touches[4]), 4);
        Check.same("1199 at turn 4 is beyond", x.wall(touches[4] - 1), 3);
        Check.same("1300 at turn 5 touches", x.wall(touches[5]), 5);
        Check.same("1299 at turn 5 is beyond", x.wall(touches[5] - 1), 4);
        Check.same("1450 at turn 6 touches, and the others reach less far", x.wall(touches[6]), 8);
        Check.same("1449 at turn 6 is beyond", x.wall(touches[6] - 1), 5);
    }

    private static void wallOfLesserTurns() {
        Check.sentence("OPENS by a turn, if in this and all lesser turns no corner lies beyond the wall");
        // At turn 5 this door reaches to 1300, at turn 8 only to 780 and a little.
        HingeTables x = new HingeTables();
        x.door(1, 5, 1300, 5);
        Check.same("turns 6 to 8 would be free again", x.wall(1299), 4);
        Check.same("turns 7 and 8 would be free again", x.wall(1200), 4);
        Check.same("turn 8 would be free again", x.wall(790), 2);
        Check.same("all are free", x.wall(1300), 8);
    }

    private static void wallBeyondEvenShut() {
        Check.sentence("wall: NONE if it lies beyond it even shut");
        HingeTables x = new HingeTables();
        Check.same("wall(-1)", x.wall(-1), NONE);
        Check.same("wall(-400)", x.wall(-400), NONE);
        Check.same("wall(-401)", x.wall(-401), NONE);
        Check.same("wall(-10000)", x.wall(-10000), NONE);
        x.door(10000, 1, 1, 1);
        Check.same("wall(-1) of the widest door", x.wall(-1), NONE);
    }

    private static void wallDistances() {
        Check.sentence("wall: IllegalArgumentException: distance is not -10000 .. 10000");
        HingeTables x = new HingeTables();
        x.door(10000, 1, 10000, 1);
        Check.same("the greatest distance", x.wall(10000), 5);
        Check.same("the least distance", x.wall(-10000), NONE);
        long[] wrong = {-10001, 10001, Long.MIN_VALUE, Long.MAX_VALUE, 1L << 32, 5 - (1L << 32), 65536};
        for (long w : wrong) {
            Check.fails("wall(" + w + ")", Check.ARGUMENT, () -> x.wall(w));
        }
    }

    private static void wallsByCorners() {
        Check.sentence("wall: The greatest turn by which the DOOR OPENS beside a wall (by its corners)");
        long[][] doors = {{400, 19}, {1, 1}, {10, 200}, {65, 65}, {650, 13}};
        for (long[] d : doors) {
            HingeTables x = new HingeTables();
            x.door(d[0], 5, d[1], 5);
            for (long distance = -3; distance < 60; distance++) {
                int due = NONE;
                while (due < 8 && standsFree(d, due + 1, distance)) {
                    due++;
                }
                Check.same("wall(" + distance + ") of " + d[0] + " by " + d[1], x.wall(distance), due);
            }
        }
    }

    private static boolean standsFree(long[] d, int turn, long distance) {
        HingeTables x = new HingeTables();
        x.door(d[0], 5, d[1], 5);
        for (int corner = 0; corner < 4; corner++) {
            if (x.corner(corner, turn, 0) + 65 * distance < 0) {
                return false;
            }
        }
        return true;
    }
}
