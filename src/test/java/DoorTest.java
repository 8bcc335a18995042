import java.math.BigInteger;

/** Promises 9 to 12, 16 and 17: door, weight, count, place, wall, corner. */
public final class DoorTest {
    private static final int NONE = HingeTables.NONE;

    public static void main(String[] args) {
        doors();
        weights();
        counts();
        places();
        placesByOtherMeans();
        corners();
        walls();
        wallsByCorners();
        Check.end("DoorTest");
    }

    private static void doors() {
        HingeTables x = new HingeTables();
        Check.no("the first door", x.door(400, 700, 19, 700));
        Check.yes("another width", x.door(401, 700, 19, 700));
        Check.yes("another height", x.door(401, 701, 19, 700));
        Check.yes("another thickness", x.door(401, 701, 20, 700));
        Check.yes("another density", x.door(401, 701, 20, 701));
        Check.no("the same door", x.door(401, 701, 20, 701));
        Check.yes("the least door", x.door(1, 1, 1, 1));
        Check.yes("the greatest door", x.door(10000, 10000, 10000, 10000));
        long[] wrong = {0, -1, 10001, Long.MIN_VALUE, Long.MAX_VALUE, (1L << 32) + 5};
        for (long w : wrong) {
            Check.fails("width " + w, Check.ARGUMENT, () -> x.door(w, 5, 5, 5));
            Check.fails("height " + w, Check.ARGUMENT, () -> x.door(5, w, 5, 5));
            Check.fails("thickness " + w, Check.ARGUMENT, () -> x.door(5, 5, w, 5));
            Check.fails("density " + w, Check.ARGUMENT, () -> x.door(5, 5, 5, w));
        }
        Check.no("what throws changes nothing", x.door(10000, 10000, 10000, 10000));
    }

    private static void weights() {
        HingeTables x = new HingeTables();
        Check.same("weight(0)", x.weight(0), 3724);
        Check.same("weight(1)", x.weight(1), 1);
        x.door(1, 1, 1, 1);
        Check.same("the least weight", x.weight(0), 1);
        Check.same("the least weight, below", x.weight(1), 1000000);
        x.door(10000, 10000, 10000, 10000);
        Check.same("the greatest weight", x.weight(0), 10000000000L);
        Check.same("the greatest weight, below", x.weight(1), 1);
        x.door(9999, 9999, 9999, 9999);
        Check.same("nothing in common", x.weight(0), 9999L * 9999 * 9999 * 9999);
        Check.same("nothing in common, below", x.weight(1), 1000000);
        x.door(3, 10, 25, 2);
        Check.same("1500 of a million", x.weight(0), 3);
        Check.same("1500 of a million, below", x.weight(1), 2000);
        Check.fails("weight(2)", Check.INDEX, () -> x.weight(2));
        Check.fails("weight(-1)", Check.INDEX, () -> x.weight(-1));
        Check.fails("weight(least int)", Check.INDEX, () -> x.weight(Integer.MIN_VALUE));
    }

    private static void counts() {
        HingeTables none = new HingeTables();
        Check.fails("count() without a table", Check.STATE, () -> none.count());
        HingeTables x = Check.with("h1,2,3,4,5,6;c900,9,2;c1600,20,3;s1,2;c1600,20,7;c2400,30,5", 6);
        Check.same("the first door", x.count(), 2);
        x.door(1, 900, 1, 1);
        Check.same("height 900", x.count(), 2);
        x.door(1, 901, 1, 1);
        Check.same("height 901", x.count(), 3);
        x.door(1, 1600, 1, 1);
        Check.same("height 1600", x.count(), 3);
        x.door(1, 2400, 1, 1);
        Check.same("height 2400", x.count(), 5);
        x.door(1, 2401, 1, 1);
        Check.same("height 2401", x.count(), NONE);
        x.door(900, 100, 100, 1000);
        Check.same("9000 grams", x.count(), 2);
        x.door(9000, 500, 2, 1000);
        Check.same("9000 grams otherwise", x.count(), 2);
        x.door(9001, 500, 2, 1000);
        Check.same("9001 grams", x.count(), 3);
        x.door(10000, 3, 9091, 33);
        Check.same("9000 grams and a little", x.count(), 3);
        x.door(6000, 500, 10, 1000);
        Check.same("30000 grams", x.count(), 5);
        x.door(6001, 500, 10, 1000);
        Check.same("30010 grams", x.count(), NONE);
        x.door(400, 700, 19, 700);
        x.stock(1, 0);
        Check.same("stock does not count", x.count(), 2);
        x.door(1, 901, 1, 1);
        x.stock(2, 0);
        Check.same("of two the first", x.count(), 3);
        Check.same("no c row", Check.with("s900,99;h700,800,900,999,5,5", 2).count(), NONE);
        Check.same("0 grams are too few", Check.with("c99999,0,1", 1).count(), NONE);
        HingeTables y = Check.with("c99999,99999,9", 1);
        y.door(10000, 10000, 10000, 99);
        Check.same("99000000 grams", y.count(), 9);
        y.door(10000, 10000, 10000, 100);
        Check.same("100000000 grams", y.count(), NONE);
    }

    private static void fraction(HingeTables x, int k, long numerator, long denominator) {
        Check.same("place(" + k + ", 0)", x.place(k, 0), numerator);
        Check.same("place(" + k + ", 1)", x.place(k, 1), denominator);
    }

    private static void places() {
        HingeTables none = new HingeTables();
        Check.fails("place(0, 0) without a table", Check.STATE, () -> none.place(0, 0));
        Check.fails("place(-1, 5) without a table", Check.STATE, () -> none.place(-1, 5));

        HingeTables one = Check.with("c10000,99999,1", 1);
        fraction(one, 0, 350, 1);
        one.door(1, 1, 1, 1);
        fraction(one, 0, 1, 2);
        Check.fails("a second of one", Check.INDEX, () -> one.place(1, 0));

        HingeTables x = Check.with("c5000,99999,3", 1);
        fraction(x, 0, 80, 1);
        fraction(x, 1, 350, 1);
        fraction(x, 2, 620, 1);
        x.door(1, 321, 1, 1);
        fraction(x, 0, 80, 1);
        fraction(x, 1, 321, 2);
        fraction(x, 2, 241, 1);
        x.door(1, 320, 1, 1);
        fraction(x, 0, 80, 1);
        fraction(x, 2, 240, 1);
        x.door(1, 319, 1, 1);
        fraction(x, 0, 319, 4);
        fraction(x, 1, 319, 2);
        fraction(x, 2, 957, 4);
        Check.fails("place(3, 0)", Check.INDEX, () -> x.place(3, 0));
        Check.fails("place(-1, 0)", Check.INDEX, () -> x.place(-1, 0));
        Check.fails("place(0, 2)", Check.INDEX, () -> x.place(0, 2));
        Check.fails("place(0, -1)", Check.INDEX, () -> x.place(0, -1));
        Check.fails("place(greatest int, 0)", Check.INDEX, () -> x.place(Integer.MAX_VALUE, 0));
        x.door(1, 5001, 1, 1);
        Check.fails("place(0, 0) beyond the table", Check.STATE, () -> x.place(0, 0));
        Check.fails("place(-1, 7) beyond the table: the state first", Check.STATE, () -> x.place(-1, 7));
    }

    /** Margin and gap are added as fractions by hand here, for all counts and many heights. */
    private static void placesByOtherMeans() {
        for (int count = 2; count <= 9; count++) {
            HingeTables x = Check.with("c99999,99999," + count, 1);
            int[] heights = {1, 2, 3, 4, 7, 100, 301, 318, 319, 320, 321, 322, 1000, 2399, 9999, 10000};
            for (int h : heights) {
                x.door(1, h, 1, 1);
                for (int k = 0; k < count; k++) {
                    long below = 4L * (count - 1);
                    long above = h < 320 ? h * (count - 1L) + 2L * k * h
                            : 4L * (80L * (count - 1) + k * (h - 160L));
                    long common = BigInteger.valueOf(above).gcd(BigInteger.valueOf(below)).longValue();
                    Check.same("place of " + k + " of " + count + " at " + h, x.place(k, 0), above / common);
                    Check.same("place below of " + k + " of " + count + " at " + h, x.place(k, 1), below / common);
                }
            }
        }
    }

    private static void corners() {
        HingeTables x = new HingeTables();
        // Behind each turn: cosine and sine, each as numerator and denominator, as the document has them.
        int[][] turns = {{1, 1, 0, 1}, {12, 13, 5, 13}, {4, 5, 3, 5}, {3, 5, 4, 5}, {5, 13, 12, 13}, {0, 1, 1, 1},
            {-5, 13, 12, 13}, {-3, 5, 4, 5}, {-4, 5, 3, 5}};
        long[][] doors = {{400, 19}, {1, 1}, {10000, 10000}, {37, 9999}};
        for (long[] d : doors) {
            x.door(d[0], 5, d[1], 5);
            long[][] shut = {{0, 0}, {d[0], 0}, {d[0], d[1]}, {0, d[1]}};
            for (int turn = 0; turn < 9; turn++) {
                long cosine = 65L / turns[turn][1] * turns[turn][0];
                long sine = 65L / turns[turn][3] * turns[turn][2];
                for (int corner = 0; corner < 4; corner++) {
                    String what = "corner " + corner + " at turn " + turn + " of " + d[0] + " by " + d[1];
                    Check.same(what + ", x", x.corner(corner, turn, 0),
                            shut[corner][0] * cosine - shut[corner][1] * sine);
                    Check.same(what + ", y", x.corner(corner, turn, 1),
                            shut[corner][0] * sine + shut[corner][1] * cosine);
                }
            }
        }
        int[][] wrong = {{-1, 0, 0}, {4, 0, 0}, {0, -1, 0}, {0, 9, 0}, {0, 0, -1}, {0, 0, 2},
            {Integer.MAX_VALUE, 0, 0}, {0, Integer.MIN_VALUE, 0}, {0, 0, Integer.MAX_VALUE}};
        for (int[] w : wrong) {
            Check.fails("corner(" + w[0] + ", " + w[1] + ", " + w[2] + ")", Check.INDEX,
                    () -> x.corner(w[0], w[1], w[2]));
        }
    }

    private static void walls() {
        HingeTables x = new HingeTables();
        Check.same("a wall within the door", x.wall(-1), NONE);
        Check.same("a wall far within the door", x.wall(-10000), NONE);
        Check.same("a wall at the door", x.wall(0), 0);
        Check.same("wall(7): 19 * 5 / 13 is 7.3", x.wall(7), 0);
        Check.same("wall(8): 19 * 3 / 5 is 11.4", x.wall(8), 1);
        Check.same("wall(18): 19 * 12 / 13 is 17.5", x.wall(18), 4);
        Check.same("wall(19): touching is not beyond", x.wall(19), 5);
        Check.same("wall(171): 400 * 5 / 13 + 17.5 is 171.4", x.wall(171), 5);
        Check.same("wall(172)", x.wall(172), 6);
        Check.same("wall(255): 400 * 3 / 5 + 15.2 is 255.2", x.wall(255), 6);
        Check.same("wall(256)", x.wall(256), 7);
        Check.same("wall(331): 400 * 4 / 5 + 11.4 is 331.4", x.wall(331), 7);
        Check.same("wall(332)", x.wall(332), 8);
        Check.same("wall(10000)", x.wall(10000), 8);
        // At turn 5 this door reaches to 1300, at turn 8 only to 780 and a little.
        x.door(1, 5, 1300, 5);
        Check.same("lesser turns count too", x.wall(1200), 4);
        Check.same("500 at turn 1 touches", x.wall(500), 1);
        Check.same("499 at turn 1 is beyond", x.wall(499), 0);
        x.door(10000, 1, 10000, 1);
        Check.same("the greatest door", x.wall(10000), 5);
        long[] wrong = {-10001, 10001, Long.MIN_VALUE, Long.MAX_VALUE, 1L << 32};
        for (long w : wrong) {
            Check.fails("wall(" + w + ")", Check.ARGUMENT, () -> x.wall(w));
        }
    }

    private static void wallsByCorners() {
        HingeTables x = new HingeTables();
        long[][] doors = {{400, 19}, {1, 1}, {10, 200}, {65, 65}, {650, 13}};
        for (long[] d : doors) {
            x.door(d[0], 5, d[1], 5);
            for (long distance = -3; distance < 60; distance++) {
                int due = NONE;
                while (due < 8 && standsFree(d, due + 1, distance)) {
                    due++;
                }
                Check.same("wall(" + distance + ") of " + d[0] + " by " + d[1], x.wall(distance), due);
            }
        }
    }

    private static boolean standsFree(long[] d, int turn, long distance) {
        HingeTables x = new HingeTables();
        x.door(d[0], 5, d[1], 5);
        for (int corner = 0; corner < 4; corner++) {
            if (x.corner(corner, turn, 0) + 65 * distance < 0) {
                return false;
            }
        }
        return true;
    }
}
