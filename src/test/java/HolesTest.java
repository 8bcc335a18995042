/** Promises 13 to 15 and 18: hole, meet, pair, rows32. */
public final class HolesTest {
    private static final int NONE = HingeTables.NONE;

    public static void main(String[] args) {
        holes();
        meetings();
        pairs();
        rowsOfHoles();
        rowsByCounting();
        Check.end("HolesTest");
    }

    private static void holes() {
        HingeTables x = new HingeTables();
        Check.no("no hole, as at first", x.hole(0, 0, 0, 0));
        Check.no("no hole, wherever it is not", x.hole(0, 5, 6, 0));
        Check.yes("a hole", x.hole(0, 5, 6, 7));
        Check.no("the same hole", x.hole(0, 5, 6, 7));
        Check.yes("another x", x.hole(0, 4, 6, 7));
        Check.yes("another y", x.hole(0, 4, -6, 7));
        Check.yes("another radius", x.hole(0, 4, -6, 8));
        Check.yes("no hole any more", x.hole(0, 4, -6, 0));
        Check.no("still no hole", x.hole(0, 4, 6, 0));
        Check.yes("the greatest", x.hole(15, 100000, 100000, 1000));
        Check.yes("the least", x.hole(15, -100000, -100000, 1));
        long[] wrong = {100001, -100001, Long.MIN_VALUE, Long.MAX_VALUE, 1L << 32};
        for (long w : wrong) {
            Check.fails("x " + w, Check.ARGUMENT, () -> x.hole(15, w, 5, 5));
            Check.fails("y " + w, Check.ARGUMENT, () -> x.hole(15, 5, w, 5));
            Check.fails("x " + w + " of no hole", Check.ARGUMENT, () -> x.hole(15, w, 5, 0));
            Check.fails("radius " + w, Check.ARGUMENT, () -> x.hole(15, 5, 5, w));
        }
        Check.fails("radius -1", Check.ARGUMENT, () -> x.hole(15, 5, 5, -1));
        Check.fails("radius 1001", Check.ARGUMENT, () -> x.hole(15, 5, 5, 1001));
        Check.no("what throws changes nothing", x.hole(15, -100000, -100000, 1));
        int[] numbers = {-1, 16, Integer.MIN_VALUE, Integer.MAX_VALUE};
        for (int k : numbers) {
            Check.fails("hole " + k, Check.INDEX, () -> x.hole(k, 5, 5, 5));
            Check.fails("hole " + k + ": the index first", Check.INDEX, () -> x.hole(k, 100001, 5, -1));
        }
    }

    private static boolean meeting(long x, long y, long r, long radius) {
        HingeTables h = new HingeTables();
        h.hole(3, 100, -50, radius);
        h.hole(9, 100 + x, -50 + y, r);
        boolean answer = h.meet(3, 9);
        Check.yes("meet goes both ways", answer == h.meet(9, 3));
        return answer;
    }

    private static void meetings() {
        Check.yes("two places in common", meeting(5, 0, 3, 3));
        Check.no("touching from outside", meeting(6, 0, 3, 3));
        Check.no("apart", meeting(7, 0, 3, 3));
        Check.no("touching aslant: 3, 4, 5", meeting(3, 4, 2, 3));
        Check.yes("nearer aslant", meeting(3, -3, 2, 3));
        Check.no("farther aslant", meeting(-4, 4, 2, 3));
        Check.yes("touching from inside: one lies in the other", meeting(2, 0, 3, 5));
        Check.yes("one lies in the other", meeting(1, 1, 1, 9));
        Check.yes("one lies in the other, the other way round", meeting(1, 1, 9, 1));
        Check.yes("the same centre", meeting(0, 0, 1, 9));
        Check.yes("the same circle", meeting(0, 0, 5, 5));
        Check.no("the first one is not there", meeting(0, 0, 5, 0));
        Check.no("the second one is not there", meeting(0, 0, 0, 5));
        Check.no("none is there", meeting(0, 0, 0, 0));

        HingeTables x = new HingeTables();
        Check.no("holes of a new object", x.meet(0, 1));
        x.hole(0, -100000, -100000, 1000);
        x.hole(15, 100000, 100000, 1000);
        Check.no("as far apart as can be", x.meet(0, 15));
        Check.no("both are one", x.meet(0, 0));
        // 65536 apart on both axes: the square of it is 0 in 32 bits.
        x.hole(1, 65536 - 100000, 65536 - 100000, 1000);
        Check.no("far apart by a power of two", x.meet(0, 1));
        int[] wrong = {-1, 16, Integer.MIN_VALUE, Integer.MAX_VALUE};
        for (int k : wrong) {
            Check.fails("meet(" + k + ", 0)", Check.INDEX, () -> x.meet(k, 0));
            Check.fails("meet(0, " + k + ")", Check.INDEX, () -> x.meet(0, k));
            Check.fails("meet(" + k + ", " + k + ")", Check.INDEX, () -> x.meet(k, k));
        }
    }

    private static void pairs() {
        HingeTables x = new HingeTables();
        Check.same("pair(0) of none", x.pair(0), NONE);
        x.hole(2, 0, 0, 5);
        x.hole(15, 9, 0, 5);
        x.hole(0, 18, 0, 5);
        x.hole(7, 0, 0, 1);
        Check.same("pair(0)", x.pair(0), 15);
        Check.same("pair(1)", x.pair(1), 16 * 2 + 7);
        Check.same("pair(2)", x.pair(2), 16 * 2 + 15);
        Check.same("pair(3)", x.pair(3), NONE);
        Check.same("pair(greatest int)", x.pair(Integer.MAX_VALUE), NONE);
        x.hole(7, 0, 0, 0);
        Check.same("pair(1) without hole 7", x.pair(1), 16 * 2 + 15);
        Check.same("pair(2) without hole 7", x.pair(2), NONE);
        Check.fails("pair(-1)", Check.INDEX, () -> x.pair(-1));
        Check.fails("pair(least int)", Check.INDEX, () -> x.pair(Integer.MIN_VALUE));

        HingeTables all = new HingeTables();
        for (int k = 0; k < 16; k++) {
            all.hole(k, k, k, 100);
        }
        int k = 0;
        for (int a = 0; a < 16; a++) {
            for (int b = a + 1; b < 16; b++) {
                Check.same("pair(" + k + ") of all", all.pair(k), 16 * a + b);
                k++;
            }
        }
        Check.same("pair(120) of all", all.pair(120), NONE);
    }

    private static void rowsOfHoles() {
        HingeTables x = new HingeTables();
        Check.same("how many in 1", x.rows32(1, NONE), 0);
        Check.same("the first in 1", x.rows32(1, 0), NONE);
        Check.same("how many in 73", x.rows32(73, NONE), 0);
        Check.same("the first in 73", x.rows32(73, 0), NONE);
        Check.same("how many in 74", x.rows32(74, NONE), 1);
        Check.same("the first in 74", x.rows32(74, 0), 37);
        Check.same("the second in 74", x.rows32(74, 1), NONE);
        Check.same("how many in 105", x.rows32(105, NONE), 1);
        Check.same("how many in 106", x.rows32(106, NONE), 2);
        Check.same("the second in 106", x.rows32(106, 1), 69);
        Check.same("how many in 100000", x.rows32(100000, NONE), 3123);
        Check.same("the last in 100000", x.rows32(100000, 3122), 99941);
        Check.same("one more in 100000", x.rows32(100000, 3123), NONE);
        Check.same("the greatest int in 100000", x.rows32(100000, Integer.MAX_VALUE), NONE);
        long[] wrong = {0, -1, 100001, Long.MIN_VALUE, Long.MAX_VALUE, (1L << 32) + 700};
        for (long h : wrong) {
            Check.fails("height " + h, Check.ARGUMENT, () -> x.rows32(h, 0));
            Check.fails("height " + h + ", how many", Check.ARGUMENT, () -> x.rows32(h, NONE));
        }
        Check.fails("k is -2", Check.ARGUMENT, () -> x.rows32(700, -2));
        Check.fails("k is the least int", Check.ARGUMENT, () -> x.rows32(700, Integer.MIN_VALUE));
    }

    private static void rowsByCounting() {
        HingeTables x = new HingeTables();
        for (int height = 1; height <= 400; height++) {
            int rows = 0;
            for (int place = 37; height - place >= 37; place += 32) {
                rows++;
            }
            Check.same("how many in " + height, x.rows32(height, NONE), rows);
        }
    }
}
