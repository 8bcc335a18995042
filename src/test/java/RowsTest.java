/** Promises 4 to 8: row, stock, hinge, other, slide. */
public final class RowsTest {
    private static final int NONE = HingeTables.NONE;
    private static final String MIXED = "h10,20,14,26,110,9;s300,25;c900,9,2;h0,30,10,30,95,0;h5,25,14,26,110,3;"
            + "s450,30;s450,10;s500,5;h10,20,14,26,110,1;h10,20,14,25,170,1";

    public static void main(String[] args) {
        rows();
        stocks();
        hinges();
        others();
        slides();
        shorterTable();
        fullTable();
        stateComesFirst();
        Check.end("RowsTest");
    }

    private static HingeTables mixed() {
        return Check.with(MIXED, 10);
    }

    private static void rows() {
        HingeTables x = mixed();
        int[] first = {10, 20, 14, 26, 110, 9};
        for (int k = 0; k < 6; k++) {
            Check.same("row(0, " + k + ")", x.row(0, k), first[k]);
        }
        Check.same("row(0, NONE)", x.row(0, NONE), 104);
        Check.same("row(1, NONE)", x.row(1, NONE), 115);
        Check.same("row(2, NONE)", x.row(2, NONE), 99);
        Check.same("row(1, 0)", x.row(1, 0), 300);
        Check.same("row(1, 1)", x.row(1, 1), 25);
        Check.same("row(2, 0)", x.row(2, 0), 900);
        Check.same("row(2, 1)", x.row(2, 1), 9);
        Check.same("row(2, 2)", x.row(2, 2), 2);
        Check.same("row(9, 4)", x.row(9, 4), 170);
        int[][] wrong = {{0, 6}, {1, 2}, {2, 3}, {0, -2}, {-1, 0}, {10, 0}, {10, NONE}, {-1, NONE}, {15, 0}, {16, 0},
            {0, Integer.MAX_VALUE}, {0, Integer.MIN_VALUE}, {Integer.MAX_VALUE, 0}, {Integer.MIN_VALUE, NONE}};
        for (int[] w : wrong) {
            Check.fails("row(" + w[0] + ", " + w[1] + ")", Check.INDEX, () -> x.row(w[0], w[1]));
        }
    }

    private static void stocks() {
        HingeTables x = mixed();
        for (int row = 0; row < 10; row++) {
            Check.no("stock(" + row + ", 9) at first", x.stock(row, 9));
        }
        Check.yes("stock(0, 0)", x.stock(0, 0));
        Check.no("stock(0, 0) again", x.stock(0, 0));
        Check.yes("stock(0, 1000)", x.stock(0, 1000));
        Check.no("the others are as before", x.stock(1, 9));
        Check.fails("stock(0, 1001)", Check.ARGUMENT, () -> x.stock(0, 1001));
        Check.fails("stock(0, -1)", Check.ARGUMENT, () -> x.stock(0, -1));
        Check.fails("stock(0, least int)", Check.ARGUMENT, () -> x.stock(0, Integer.MIN_VALUE));
        Check.no("what throws changes nothing", x.stock(0, 1000));
        Check.fails("stock(10, 5)", Check.INDEX, () -> x.stock(10, 5));
        Check.fails("stock(-1, 5)", Check.INDEX, () -> x.stock(-1, 5));
        Check.fails("stock(10, 1001): the index first", Check.INDEX, () -> x.stock(10, 1001));
        Check.fails("stock(-1, -1): the index first", Check.INDEX, () -> x.stock(-1, -1));
    }

    private static void hinges() {
        HingeTables x = mixed();
        Check.same("all in the first row", x.hinge(15, 20, 100), 0);
        Check.same("the least of the first row", x.hinge(10, 14, 110), 0);
        Check.same("the greatest of the first row", x.hinge(20, 26, 110), 0);
        Check.same("overlay below the first row", x.hinge(9, 14, 95), 3);
        Check.same("overlay above the first row", x.hinge(21, 26, 95), 3);
        Check.same("thickness below the first row", x.hinge(10, 13, 95), 3);
        Check.same("thickness above the first row", x.hinge(10, 27, 95), 3);
        Check.same("angle above row 3", x.hinge(9, 14, 96), 4);
        Check.same("angle above the first row", x.hinge(10, 14, 111), 9);
        Check.same("the greatest angle", x.hinge(10, 25, 170), 9);
        Check.same("above the greatest angle", x.hinge(10, 25, 171), NONE);
        Check.same("thickness and angle in no one row", x.hinge(10, 26, 170), NONE);
        Check.same("overlay of no row", x.hinge(31, 20, 0), NONE);
        Check.same("thickness of no row", x.hinge(15, 31, 0), NONE);
        Check.same("an angle below 0", x.hinge(15, 20, Integer.MIN_VALUE), 0);
        Check.same("the greatest int as angle", x.hinge(15, 20, Integer.MAX_VALUE), NONE);
        Check.same("an overlay that an int can't hold", x.hinge(15L + (1L << 32), 20, 0), NONE);
        Check.same("a thickness that an int can't hold", x.hinge(15, 20L - (1L << 32), 0), NONE);
        Check.same("the least long", x.hinge(Long.MIN_VALUE, Long.MIN_VALUE, 0), NONE);
        x.stock(0, 0);
        Check.same("the first row without stock", x.hinge(15, 20, 100), 4);
        Check.same("the first row without stock, a lesser angle", x.hinge(15, 20, 95), 3);
        x.stock(0, 1);
        Check.same("one in stock is enough", x.hinge(15, 20, 100), 0);
        Check.same("no h row", Check.with("s15,20;c15,20,9", 2).hinge(15, 20, 0), NONE);
        Check.same("no h row, zeros", Check.with("s5,5;c5,5,5", 2).hinge(0, 0, 0), NONE);
    }

    private static void shorterTable() {
        HingeTables x = mixed();
        Check.same("read() of a shorter table", Check.readText(x, "s5,5"), 1);
        Check.same("read() of it again", Check.readText(x, "s5,5"), 1);
        Check.same("no hinge of the table before", x.hinge(15, 20, 100), NONE);
        Check.same("no slide of the table before", x.slide(450), 0);
        Check.same("no count of the table before", x.count(), NONE);

        // Every place behind row 0 holds, from the tables before, a row that would answer.
        String hinge = "h0,99,0,99,99,0";
        HingeTables y = Check.with(hinge + ";" + hinge, 2);
        Check.same("read() of it again", Check.readText(y, hinge + ";" + hinge), 2);
        Check.same("read() of one row", Check.readText(y, "h1,2,3,4,5,6"), 1);
        Check.same("read() of one row again", Check.readText(y, "h1,2,3,4,5,6"), 1);
        Check.same("no stale hinge", y.hinge(50, 50, 50), NONE);
        Check.same("no stale other", y.other(0, 0), NONE);
        HingeTables z = Check.with("c99999,99999,4;c99999,99999,4;s7,8", 3);
        Check.same("read() of one row and then none", Check.readText(z, "c1,1,1"), 1);
        Check.same("read() of it again, over the first table", Check.readText(z, "c1,1,1"), 1);
        Check.same("no stale count", z.count(), NONE);
    }

    private static void fullTable() {
        StringBuilder text = new StringBuilder("c1,1,1");
        for (int i = 1; i < 16; i++) {
            text.append(i == 15 ? ";h1,2,3,4,5,6" : ";s900,1");
        }
        HingeTables x = Check.with(text.toString(), 16);
        Check.same("hinge in the last row", x.hinge(1, 3, 5), 15);
        Check.same("no hinge in sixteen rows", x.hinge(9, 9, 9), NONE);
        Check.same("no other in sixteen rows", x.other(15, 0), NONE);
        Check.same("no slide in sixteen rows", x.slide(899), NONE);
        Check.same("the first slide of many", x.slide(900), 1);
        Check.same("no count in sixteen rows", x.count(), NONE);
        Check.yes("stock of the last row", x.stock(15, 0));
        Check.same("no hinge left", x.hinge(1, 3, 5), NONE);
        Check.fails("row(16, 0)", Check.INDEX, () -> x.row(16, 0));
        Check.fails("stock(16, 0)", Check.INDEX, () -> x.stock(16, 0));
        Check.fails("other(16, 0)", Check.INDEX, () -> x.other(16, 0));
    }

    private static void others() {
        HingeTables x = mixed();
        Check.same("other(0, 0)", x.other(0, 0), 4);
        Check.same("other(0, 1): the same numbers", x.other(0, 1), 8);
        Check.same("other(0, 2): 9 is too thin, 3 opens too little", x.other(0, 2), NONE);
        Check.same("other(8, 0)", x.other(8, 0), 0);
        Check.same("other(8, 1)", x.other(8, 1), 4);
        Check.same("other(8, 2)", x.other(8, 2), NONE);
        Check.same("other(3, 0)", x.other(3, 0), NONE);
        Check.same("other(4, 0)", x.other(4, 0), NONE);
        Check.same("other(9, 0): none opens so far", x.other(9, 0), NONE);
        Check.same("other(0, greatest int)", x.other(0, Integer.MAX_VALUE), NONE);
        x.stock(0, 0);
        Check.same("a row without stock has others", x.other(0, 0), 4);
        Check.same("a row without stock is none of the others", x.other(8, 0), 4);
        x.stock(4, 0);
        Check.same("the next one", x.other(0, 0), 8);
        Check.same("none left", x.other(8, 0), NONE);
        Check.fails("other(1, 0): an s row", Check.ARGUMENT, () -> x.other(1, 0));
        Check.fails("other(2, 0): a c row", Check.ARGUMENT, () -> x.other(2, 0));
        Check.fails("other(0, -1)", Check.INDEX, () -> x.other(0, -1));
        Check.fails("other(1, -1): the index first", Check.INDEX, () -> x.other(1, -1));
        Check.fails("other(10, 0)", Check.INDEX, () -> x.other(10, 0));
        Check.fails("other(-1, 0)", Check.INDEX, () -> x.other(-1, 0));
        oneSideShort();
    }

    /** Each of the rows behind the first one lacks one part of what the first one holds. */
    private static void oneSideShort() {
        HingeTables x = Check.with("h10,20,14,26,110,9;h11,20,14,26,110,9;h10,19,14,26,110,9;"
                + "h10,20,15,26,110,9;h10,20,14,25,110,9;h10,20,14,26,109,9;s1,1", 7);
        Check.same("each lacks something", x.other(0, 0), NONE);
        Check.same("but the first one holds all of row 1", x.other(1, 0), 0);
        Check.same("and of row 5", x.other(5, 0), 0);
    }

    private static void slides() {
        HingeTables x = mixed();
        Check.same("slide(299)", x.slide(299), NONE);
        Check.same("slide(300)", x.slide(300), 1);
        Check.same("slide(449)", x.slide(449), 1);
        Check.same("slide(450): of two the first", x.slide(450), 5);
        Check.same("slide(499)", x.slide(499), 5);
        Check.same("slide(500)", x.slide(500), 7);
        Check.same("slide(greatest long)", x.slide(Long.MAX_VALUE), 7);
        Check.same("slide(least long)", x.slide(Long.MIN_VALUE), NONE);
        Check.same("slide(-1)", x.slide(-1), NONE);
        x.stock(5, 0);
        Check.same("slide(450) without row 5", x.slide(450), 6);
        x.stock(6, 0);
        Check.same("slide(450) without rows 5 and 6", x.slide(450), 1);
        x.stock(1, 0);
        Check.same("slide(450) without any", x.slide(450), NONE);
        HingeTables y = Check.with("s500,1;s0,1;s300,1;h1,1,1,1,1,1;c1,1,1", 5);
        Check.same("a longer one first", y.slide(400), 2);
        Check.same("the longest one first", y.slide(600), 0);
        Check.same("length 0", y.slide(0), 1);
        Check.same("no s row", Check.with("h1,1,1,1,1,1;c1,1,1", 2).slide(9), NONE);
    }

    private static void stateComesFirst() {
        HingeTables x = new HingeTables();
        Check.readText(x, "s1,");
        Check.fails("row(-1, -5)", Check.STATE, () -> x.row(-1, -5));
        Check.fails("stock(-1, -1)", Check.STATE, () -> x.stock(-1, -1));
        Check.fails("other(-1, -1)", Check.STATE, () -> x.other(-1, -1));
        Check.fails("hinge(0, 0, 0)", Check.STATE, () -> x.hinge(0, 0, 0));
        Check.fails("slide(0)", Check.STATE, () -> x.slide(0));
    }
}
