/** Promises 13 to 15 and 18: hole, meet, pair, rows32: each method holds to one sentence of the document. */
public final class HolesTest {
    private static final int NONE = HingeTables.NONE;
    private static final int[] WRONG_HOLES = {-1, 16, 17, 65536, Integer.MIN_VALUE, Integer.MAX_VALUE};

    public static void main(String[] args) {
        holeIsAnother();
        noHoleAsAtFirst();
        holesAreSixteen();
        centresOfHoles();
        radiiOfHoles();
        moreThanOnePlaceInCommon();
        oneLiesInTheOther();
        meetingsOfWhatIsNotThere();
        bothAreOne();
        meetingsFarApart();
        meetOfNoHole();
        pairsInTheirOrder();
        pairsOfAll();
        pairsAreNotSoMany();
        pairBelowZero();
        firstRowOfHoles();
        lastRowOfHoles();
        rowsOfHolesAreNotSoMany();
        howManyRowsOfHoles();
        rowsByCounting();
        wrongRowsOfHoles();
        Check.end("HolesTest");
    }

    private static void holeIsAnother() {
        Check.sentence("hole: A hole: whether it is another one");
        HingeTables x = new HingeTables();
        for (int k = 0; k < 16; k++) {
            Check.yes("a hole", x.hole(k, 5, 6, 7));
            Check.no("the same hole", x.hole(k, 5, 6, 7));
            Check.yes("another x", x.hole(k, 4, 6, 7));
            Check.yes("another y", x.hole(k, 4, -6, 7));
            Check.yes("another radius", x.hole(k, 4, -6, 8));
            Check.yes("x and y the other way round", x.hole(k, -6, 4, 8));
            Check.no("still the same", x.hole(k, -6, 4, 8));
        }
        Check.no("the first of sixteen", x.hole(0, -6, 4, 8));
    }

    private static void noHoleAsAtFirst() {
        Check.sentence("hole: (0: there is none, as at first)");
        HingeTables x = new HingeTables();
        for (int k = 0; k < 16; k++) {
            Check.no("no hole " + k + ", as at first", x.hole(k, 0, 0, 0));
        }
        Check.no("no hole, wherever it is not", x.hole(0, 5, 6, 0));
        Check.yes("a hole", x.hole(0, 4, -6, 8));
        Check.yes("no hole any more", x.hole(0, 4, -6, 0));
        Check.no("still no hole", x.hole(0, 4, 6, 0));
        Check.no("no hole, as at first", x.hole(0, 0, 0, 0));
        Check.yes("a hole again", x.hole(0, 4, -6, 8));
        Check.yes("a hole at 0, 0", x.hole(1, 0, 0, 1));
    }

    private static void holesAreSixteen() {
        Check.sentence("hole: IndexOutOfBoundsException: k is not 0 .. 15");
        HingeTables x = new HingeTables();
        Check.yes("hole 0", x.hole(0, 5, 5, 5));
        Check.yes("hole 15", x.hole(15, 5, 5, 5));
        for (int k : WRONG_HOLES) {
            Check.fails("hole " + k, Check.INDEX, () -> x.hole(k, 5, 5, 5));
            Check.fails("no hole " + k, Check.INDEX, () -> x.hole(k, 0, 0, 0));
        }
    }

    private static void centresOfHoles() {
        Check.sentence("hole: IllegalArgumentException: x or y is not -100000 .. 100000");
        HingeTables x = new HingeTables();
        Check.yes("the greatest", x.hole(15, 100000, 100000, 5));
        Check.yes("the least", x.hole(15, -100000, -100000, 5));
        long[] wrong = {100001, -100001, Long.MIN_VALUE, Long.MAX_VALUE, 1L << 32, 5 - (1L << 32)};
        for (long w : wrong) {
            Check.fails("x " + w, Check.ARGUMENT, () -> x.hole(15, w, 5, 5));
            Check.fails("y " + w, Check.ARGUMENT, () -> x.hole(15, 5, w, 5));
            Check.fails("x and y " + w, Check.ARGUMENT, () -> x.hole(15, w, w, 5));
            Check.fails("x " + w + " of no hole", Check.ARGUMENT, () -> x.hole(15, w, 5, 0));
            Check.fails("y " + w + " of no hole", Check.ARGUMENT, () -> x.hole(15, 5, w, 0));
        }
        Check.no("what throws changes nothing", x.hole(15, -100000, -100000, 5));
    }

    private static void radiiOfHoles() {
        Check.sentence("hole: IllegalArgumentException: r not 0 .. 1000");
        HingeTables x = new HingeTables();
        Check.yes("the least radius", x.hole(3, 5, 5, 1));
        Check.yes("the greatest radius", x.hole(3, 5, 5, 1000));
        long[] wrong = {-1, 1001, Long.MIN_VALUE, Long.MAX_VALUE, 1L << 32, (1L << 32) + 5, 65536};
        for (long r : wrong) {
            Check.fails("radius " + r, Check.ARGUMENT, () -> x.hole(3, 5, 5, r));
        }
        Check.no("what throws changes nothing", x.hole(3, 5, 5, 1000));
        Check.yes("radius 0", x.hole(3, 5, 5, 0));
    }

    private static boolean meeting(long x, long y, long r, long radius) {
        HingeTables h = new HingeTables();
        h.hole(3, 100, -50, radius);
        h.hole(9, 100 + x, -50 + y, r);
        boolean answer = h.meet(3, 9);
        Check.yes("meet goes both ways", answer == h.meet(9, 3));
        Check.yes("pair says so too", h.pair(0) == (answer ? 16 * 3 + 9 : NONE));
        return answer;
    }

    private static void moreThanOnePlaceInCommon() {
        Check.sentence("two MEET if their circles have more than one place in common");
        Check.yes("two places in common", meeting(5, 0, 3, 3));
        Check.no("touching from outside", meeting(6, 0, 3, 3));
        Check.no("touching from outside, on the other side", meeting(-6, 0, 3, 3));
        Check.no("touching from above", meeting(0, 6, 3, 3));
        Check.no("apart", meeting(7, 0, 3, 3));
        Check.no("touching aslant: 3, 4, 5", meeting(3, 4, 2, 3));
        Check.yes("nearer aslant", meeting(3, -3, 2, 3));
        Check.no("farther aslant", meeting(-4, 4, 2, 3));
        Check.yes("the same circle", meeting(0, 0, 5, 5));
        Check.no("the greatest, touching", meeting(2000, 0, 1000, 1000));
        Check.yes("the greatest, nearer by 1", meeting(1999, 0, 1000, 1000));
        Check.no("the greatest, touching aslant", meeting(1200, 1600, 1000, 1000));
        Check.yes("the greatest, nearer aslant", meeting(1200, 1599, 1000, 1000));
        Check.no("the least, touching", meeting(2, 0, 1, 1));
        Check.yes("the least, nearer", meeting(1, 1, 1, 1));
    }

    private static void oneLiesInTheOther() {
        Check.sentence("two MEET if one lies in the other");
        Check.yes("well within", meeting(1, 1, 1, 9));
        Check.yes("well within, the other way round", meeting(1, 1, 9, 1));
        Check.yes("the same centre", meeting(0, 0, 1, 9));
        Check.yes("the least in the greatest", meeting(0, 0, 1, 1000));
        Check.yes("touching from inside", meeting(2, 0, 3, 5));
        Check.yes("touching from inside aslant", meeting(3, 4, 2, 7));
        Check.yes("through the other's edge", meeting(3, 0, 3, 5));
    }

    private static void meetingsOfWhatIsNotThere() {
        Check.sentence("meet: (no, if one is not there)");
        Check.no("the first one is not there", meeting(0, 0, 5, 0));
        Check.no("the second one is not there", meeting(0, 0, 0, 5));
        Check.no("none is there", meeting(0, 0, 0, 0));
        HingeTables x = new HingeTables();
        Check.no("holes of a new object", x.meet(0, 1));
        x.hole(0, 0, 0, 1000);
        Check.no("a hole round 0, 0 and one that never was", x.meet(0, 1));
        x.hole(1, 0, 0, 5);
        Check.yes("both are there", x.meet(0, 1));
        x.hole(1, 0, 0, 0);
        Check.no("one is there no more", x.meet(0, 1));
    }

    private static void bothAreOne() {
        Check.sentence("meet: (no, if both are one)");
        HingeTables x = new HingeTables();
        for (int k = 0; k < 16; k++) {
            Check.no("both are one that is not there", x.meet(k, k));
            x.hole(k, 5, 5, 5);
            Check.no("both are one", x.meet(k, k));
        }
        Check.same("and they are no pair", x.pair(0), 1);
    }

    private static void meetingsFarApart() {
        Check.sentence("two MEET: as far apart as holes can be");
        HingeTables x = new HingeTables();
        x.hole(0, -100000, -100000, 1000);
        x.hole(15, 100000, 100000, 1000);
        Check.no("as far apart as can be", x.meet(0, 15));
        // 65536 apart on both axes: the square of it is 0 in 32 bits.
        x.hole(1, 65536 - 100000, 65536 - 100000, 1000);
        Check.no("far apart by a power of two", x.meet(0, 1));
        x.hole(2, -100000, 65536 - 100000, 1000);
        Check.no("far apart by a power of two, on one axis", x.meet(0, 2));
        Check.same("no pair", x.pair(0), NONE);
    }

    private static void meetOfNoHole() {
        Check.sentence("meet: IndexOutOfBoundsException");
        HingeTables x = new HingeTables();
        for (int k : WRONG_HOLES) {
            Check.fails("meet(" + k + ", 0)", Check.INDEX, () -> x.meet(k, 0));
            Check.fails("meet(0, " + k + ")", Check.INDEX, () -> x.meet(0, k));
            Check.fails("meet(" + k + ", " + k + ")", Check.INDEX, () -> x.meet(k, k));
        }
        Check.no("meet(0, 15)", x.meet(0, 15));
        Check.no("meet(15, 0)", x.meet(15, 0));
    }

    /** Holes 0 and 15, 2 and 7, 2 and 15 meet. */
    private static HingeTables threePairs() {
        HingeTables x = new HingeTables();
        x.hole(2, 0, 0, 5);
        x.hole(15, 9, 0, 5);
        x.hole(0, 18, 0, 5);
        x.hole(7, 0, 0, 1);
        return x;
    }

    private static void pairsInTheirOrder() {
        Check.sentence("pair: The k-th pair of holes that MEET (16 * a + b, a below b; by a, then b)");
        HingeTables x = threePairs();
        Check.same("pair(0)", x.pair(0), 15);
        Check.same("pair(1)", x.pair(1), 16 * 2 + 7);
        Check.same("pair(2)", x.pair(2), 16 * 2 + 15);
        x.hole(7, 0, 0, 0);
        Check.same("pair(1) without hole 7", x.pair(1), 16 * 2 + 15);
        HingeTables last = new HingeTables();
        last.hole(15, 1, 1, 1);
        last.hole(14, 1, 1, 1);
        Check.same("the last pair there can be", last.pair(0), 16 * 14 + 15);
    }

    private static void pairsOfAll() {
        Check.sentence("pair: The k-th pair of holes that MEET (all of them)");
        HingeTables all = new HingeTables();
        for (int k = 0; k < 16; k++) {
            all.hole(k, k, k, 100);
        }
        int k = 0;
        for (int a = 0; a < 16; a++) {
            for (int b = a + 1; b < 16; b++) {
                Check.same("pair(" + k + ") of all", all.pair(k), 16 * a + b);
                k++;
            }
        }
        Check.same("pair(120) of all", all.pair(120), NONE);
    }

    private static void pairsAreNotSoMany() {
        Check.sentence("pair: NONE if there are not so many");
        Check.same("pair(0) of none", new HingeTables().pair(0), NONE);
        HingeTables x = threePairs();
        Check.same("pair(3)", x.pair(3), NONE);
        Check.same("pair(65536)", x.pair(65536), NONE);
        Check.same("pair(greatest int)", x.pair(Integer.MAX_VALUE), NONE);
        x.hole(7, 0, 0, 0);
        Check.same("pair(2) without hole 7", x.pair(2), NONE);
    }

    private static void pairBelowZero() {
        Check.sentence("pair: IndexOutOfBoundsException: k is below 0");
        HingeTables x = threePairs();
        Check.fails("pair(-1)", Check.INDEX, () -> x.pair(-1));
        Check.fails("pair(least int)", Check.INDEX, () -> x.pair(Integer.MIN_VALUE));
        Check.fails("pair(-1) of a new object", Check.INDEX, () -> new HingeTables().pair(-1));
    }

    private static void firstRowOfHoles() {
        Check.sentence("rows32: the first one 37 from the lower end, 32 apart");
        HingeTables x = new HingeTables();
        Check.same("the first in 74", x.rows32(74, 0), 37);
        Check.same("the first in 100000", x.rows32(100000, 0), 37);
        Check.same("the second in 106", x.rows32(106, 1), 69);
        Check.same("the third in 700", x.rows32(700, 2), 101);
        for (int k = 0; k <= 19; k++) {
            Check.same("row " + k + " in 700", x.rows32(700, k), 37 + 32 * k);
        }
    }

    private static void lastRowOfHoles() {
        Check.sentence("rows32: the last one at least 37 from the upper end");
        HingeTables x = new HingeTables();
        Check.same("the first in 73", x.rows32(73, 0), NONE);
        Check.same("the first in 74, 37 from both ends", x.rows32(74, 0), 37);
        Check.same("the second in 105", x.rows32(105, 1), NONE);
        Check.same("the second in 106, 37 from the upper end", x.rows32(106, 1), 69);
        Check.same("the third in 137", x.rows32(137, 2), NONE);
        Check.same("the third in 138", x.rows32(138, 2), 101);
        Check.same("the last in 100000", x.rows32(100000, 3122), 99941);
    }

    private static void rowsOfHolesAreNotSoMany() {
        Check.sentence("rows32: NONE if there are not so many");
        HingeTables x = new HingeTables();
        Check.same("the first in 1", x.rows32(1, 0), NONE);
        Check.same("the first in 37", x.rows32(37, 0), NONE);
        Check.same("the second in 74", x.rows32(74, 1), NONE);
        Check.same("row 20 in 700", x.rows32(700, 20), NONE);
        Check.same("one more in 100000", x.rows32(100000, 3123), NONE);
        // 32 times this is 32 in 32 bits.
        Check.same("row 2 to the 27th and 1 more", x.rows32(700, (1 << 27) + 1), NONE);
        Check.same("the greatest int in 100000", x.rows32(100000, Integer.MAX_VALUE), NONE);
    }

    private static void howManyRowsOfHoles() {
        Check.sentence("rows32: (how many: k = NONE)");
        HingeTables x = new HingeTables();
        Check.same("how many in 1", x.rows32(1, NONE), 0);
        Check.same("how many in 42", x.rows32(42, NONE), 0);
        Check.same("how many in 73", x.rows32(73, NONE), 0);
        Check.same("how many in 74", x.rows32(74, NONE), 1);
        Check.same("how many in 105", x.rows32(105, NONE), 1);
        Check.same("how many in 106", x.rows32(106, NONE), 2);
        Check.same("how many in 99999", x.rows32(99999, NONE), 3123);
        Check.same("how many in 100000", x.rows32(100000, NONE), 3123);
    }

    private static void rowsByCounting() {
        Check.sentence("rows32: (how many: k = NONE), by counting them");
        HingeTables x = new HingeTables();
        for (int height = 1; height <= 400; height++) {
            int rows = 0;
            for (int place = 37; height - place >= 37; place += 32) {
                rows++;
            }
            Check.same("how many in " + height, x.rows32(height, NONE), rows);
        }
    }

    private static void wrongRowsOfHoles() {
        Check.sentence("rows32: IllegalArgumentException: height is not 1 .. 100000, or k below NONE");
        HingeTables x = new HingeTables();
        long[] wrong = {0, -1, 100001, Long.MIN_VALUE, Long.MAX_VALUE, (1L << 32) + 700, 700 - (1L << 32)};
        for (long h : wrong) {
            Check.fails("height " + h, Check.ARGUMENT, () -> x.rows32(h, 0));
            Check.fails("height " + h + ", how many", Check.ARGUMENT, () -> x.rows32(h, NONE));
            Check.fails("height " + h + ", k -2", Check.ARGUMENT, () -> x.rows32(h, -2));
        }
        Check.fails("k is -2", Check.ARGUMENT, () -> x.rows32(700, -2));
        Check.fails("k is -2 where there is no row", Check.ARGUMENT, () -> x.rows32(1, -2));
        Check.fails("k is the least int", Check.ARGUMENT, () -> x.rows32(700, Integer.MIN_VALUE));
    }
}
