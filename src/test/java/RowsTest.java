/** Promises 4 to 8: row, stock, hinge, other, slide: each method holds to one sentence of the document. */
public final class RowsTest {
    private static final int NONE = HingeTables.NONE;
    private static final int[] WRONG_ROWS = {-1, 10, 11, 15, 16, 17, 10 + (1 << 16), Integer.MIN_VALUE,
        Integer.MAX_VALUE};
    private static final String MIXED = "h10,20,14,26,110,9;s300,25;c900,9,2;h0,30,10,30,95,0;h5,25,14,26,110,3;"
            + "s450,30;s450,10;s500,5;h10,20,14,26,110,1;h10,20,14,25,170,1";

    public static void main(String[] args) {
        numbersOfRows();
        lettersOfRows();
        noSuchRow();
        noSuchNumber();
        stockIsAnother();
        stockOfOtherRows();
        stockWithin1000();
        stockOfNoRow();
        hingeSpans();
        hingeAngles();
        firstHinge();
        hingeNeedsStock();
        hingeOnlyOfHRows();
        hingeBeyondTheTable();
        othersHoldAll();
        othersAreOthers();
        othersNeedStock();
        othersInTheirOrder();
        othersAreNotSoMany();
        otherOfNoRow();
        otherOfNoHingeRow();
        slideNotLonger();
        longestSlide();
        firstOfLongestSlides();
        slideNeedsStock();
        noSlide();
        shorterTable();
        fullTable();
        Check.end("RowsTest");
    }

    private static HingeTables mixed() {
        return Check.with(MIXED, 10);
    }

    private static void numbersOfRows() {
        Check.sentence("row: Number k of a row (0, 1, ..)");
        HingeTables x = mixed();
        int[] first = {10, 20, 14, 26, 110, 9};
        for (int k = 0; k < 6; k++) {
            Check.same("row(0, " + k + ")", x.row(0, k), first[k]);
        }
        Check.same("row(1, 0)", x.row(1, 0), 300);
        Check.same("row(1, 1)", x.row(1, 1), 25);
        Check.same("row(2, 0)", x.row(2, 0), 900);
        Check.same("row(2, 1): in thousands, as it was told", x.row(2, 1), 9);
        Check.same("row(2, 2)", x.row(2, 2), 2);
        Check.same("row(9, 4)", x.row(9, 4), 170);
    }

    private static void lettersOfRows() {
        Check.sentence("row: or its letter (k = NONE)");
        HingeTables x = mixed();
        String letters = "hschhssshh";
        for (int row = 0; row < 10; row++) {
            Check.same("row(" + row + ", NONE)", x.row(row, NONE), letters.charAt(row));
        }
    }

    private static void noSuchRow() {
        Check.sentence("row: IndexOutOfBoundsException: there is no such row");
        HingeTables x = mixed();
        for (int row : WRONG_ROWS) {
            Check.fails("row(" + row + ", 0)", Check.INDEX, () -> x.row(row, 0));
            Check.fails("row(" + row + ", NONE)", Check.INDEX, () -> x.row(row, NONE));
            Check.fails("row(" + row + ", 99)", Check.INDEX, () -> x.row(row, 99));
        }
        Check.same("the first row", x.row(0, 0), 10);
        Check.same("the last row", x.row(9, 0), 10);
    }

    private static void noSuchNumber() {
        Check.sentence("row: IndexOutOfBoundsException: also of k");
        HingeTables x = mixed();
        int[][] wrong = {{0, 6}, {1, 2}, {2, 3}, {1, 5}, {2, 5}, {0, -2}, {1, -2}, {2, -2}, {9, 6}, {0, 5 + (1 << 16)},
            {0, Integer.MAX_VALUE}, {0, Integer.MIN_VALUE}};
        for (int[] w : wrong) {
            Check.fails("row(" + w[0] + ", " + w[1] + ")", Check.INDEX, () -> x.row(w[0], w[1]));
        }
    }

    private static void stockIsAnother() {
        Check.sentence("stock: whether it was another one");
        HingeTables x = mixed();
        for (int row = 0; row < 10; row++) {
            Check.no("stock(" + row + ", 9) at first", x.stock(row, 9));
            Check.yes("stock(" + row + ", 8)", x.stock(row, 8));
            Check.no("stock(" + row + ", 8) again", x.stock(row, 8));
            Check.yes("stock(" + row + ", 9)", x.stock(row, 9));
        }
    }

    private static void stockOfOtherRows() {
        Check.sentence("stock: The STOCK of a row");
        HingeTables x = mixed();
        Check.yes("stock(4, 0)", x.stock(4, 0));
        for (int row = 0; row < 10; row++) {
            Check.no("stock of row " + row, x.stock(row, row == 4 ? 0 : 9));
        }
    }

    private static void stockWithin1000() {
        Check.sentence("stock: IllegalArgumentException: n is not 0 .. 1000");
        HingeTables x = mixed();
        Check.yes("stock(0, 0)", x.stock(0, 0));
        Check.yes("stock(0, 1000)", x.stock(0, 1000));
        int[] wrong = {-1, 1001, 9 + (1 << 16), Integer.MIN_VALUE, Integer.MAX_VALUE};
        for (int n : wrong) {
            Check.fails("stock(0, " + n + ")", Check.ARGUMENT, () -> x.stock(0, n));
            Check.fails("stock(9, " + n + ")", Check.ARGUMENT, () -> x.stock(9, n));
        }
        Check.no("what throws changes nothing", x.stock(0, 1000));
    }

    private static void stockOfNoRow() {
        Check.sentence("stock: IndexOutOfBoundsException");
        HingeTables x = mixed();
        for (int row : WRONG_ROWS) {
            Check.fails("stock(" + row + ", 5)", Check.INDEX, () -> x.stock(row, 5));
        }
    }

    private static void hingeSpans() {
        Check.sentence("HINGE: the first h row whose spans hold both");
        HingeTables x = mixed();
        Check.same("all in the first row", x.hinge(15, 20, 100), 0);
        Check.same("the least of the first row", x.hinge(10, 14, 110), 0);
        Check.same("the greatest of the first row", x.hinge(20, 26, 110), 0);
        Check.same("overlay below the first row", x.hinge(9, 14, 95), 3);
        Check.same("overlay above the first row", x.hinge(21, 26, 95), 3);
        Check.same("thickness below the first row", x.hinge(10, 13, 95), 3);
        Check.same("thickness above the first row", x.hinge(10, 27, 95), 3);
        HingeTables y = Check.with("h0,0,5,5,9,9;h99999,99999,5,5,9,9", 2);
        Check.same("a span of one, 0", y.hinge(0, 5, 9), 0);
        Check.same("a span of one, 99999", y.hinge(99999, 5, 9), 1);
        Check.same("overlay -1", y.hinge(-1, 5, 9), NONE);
        Check.same("overlay 1", y.hinge(1, 5, 9), NONE);
        Check.same("overlay 100000", y.hinge(100000, 5, 9), NONE);
        Check.same("thickness 4", y.hinge(0, 4, 9), NONE);
        Check.same("thickness 6", y.hinge(0, 6, 9), NONE);
    }

    private static void hingeAngles() {
        Check.sentence("HINGE: whose angle is at least so much");
        HingeTables x = mixed();
        Check.same("angle 95 of row 3", x.hinge(9, 14, 95), 3);
        Check.same("angle above row 3", x.hinge(9, 14, 96), 4);
        Check.same("angle above the first row", x.hinge(10, 14, 111), 9);
        Check.same("the greatest angle", x.hinge(10, 25, 170), 9);
        Check.same("above the greatest angle", x.hinge(10, 25, 171), NONE);
        Check.same("angle 0", x.hinge(15, 20, 0), 0);
        Check.same("an angle below 0", x.hinge(15, 20, -1), 0);
        Check.same("the least int as angle", x.hinge(15, 20, Integer.MIN_VALUE), 0);
        Check.same("the greatest int as angle", x.hinge(15, 20, Integer.MAX_VALUE), NONE);
        Check.same("the crank is no angle", Check.with("h1,1,1,1,5,99", 1).hinge(1, 1, 6), NONE);
    }

    private static void firstHinge() {
        Check.sentence("HINGE: the first h row");
        HingeTables x = Check.with("s1,1;h1,9,1,9,9,0;h1,9,1,9,9,0;h1,9,1,9,99,0", 4);
        Check.same("of three", x.hinge(5, 5, 5), 1);
        x.stock(1, 0);
        Check.same("of two", x.hinge(5, 5, 5), 2);
        x.stock(2, 0);
        Check.same("of one", x.hinge(5, 5, 5), 3);
        x.stock(3, 0);
        Check.same("of none", x.hinge(5, 5, 5), NONE);
    }

    private static void hingeNeedsStock() {
        Check.sentence("HINGE: with STOCK");
        HingeTables x = mixed();
        x.stock(0, 0);
        Check.same("the first row without stock", x.hinge(15, 20, 100), 4);
        Check.same("the first row without stock, a lesser angle", x.hinge(15, 20, 95), 3);
        x.stock(0, 1);
        Check.same("one in stock is enough", x.hinge(15, 20, 100), 0);
        x.stock(0, 1000);
        Check.same("a thousand in stock", x.hinge(15, 20, 100), 0);
    }

    private static void hingeOnlyOfHRows() {
        Check.sentence("HINGE: h row");
        Check.same("no h row", Check.with("s15,20;c15,20,9", 2).hinge(15, 20, 0), NONE);
        Check.same("no h row, zeros", Check.with("s5,5;c5,5,5", 2).hinge(0, 0, 0), NONE);
        // Numbers of h rows that were read before s and c rows stood there must not be taken for theirs.
        HingeTables x = Check.with("h0,99,0,99,99,0;h0,99,0,99,99,0", 2);
        Check.same("s and c rows", Check.readText(x, "s0,99;c0,99,1"), 2);
        Check.same("s and c rows again", Check.readText(x, "s0,99;c0,99,1"), 2);
        Check.same("no h row any more", x.hinge(5, 5, 5), NONE);
    }

    private static void hingeBeyondTheTable() {
        Check.sentence("hinge: NONE beyond the table");
        HingeTables x = mixed();
        Check.same("thickness and angle in no one row", x.hinge(10, 26, 170), NONE);
        Check.same("overlay of no row", x.hinge(31, 20, 0), NONE);
        Check.same("thickness above all rows", x.hinge(15, 31, 0), NONE);
        Check.same("thickness below all rows", x.hinge(15, 9, 0), NONE);
        Check.same("an overlay that an int can't hold", x.hinge(15L + (1L << 32), 20, 0), NONE);
        Check.same("a thickness that an int can't hold", x.hinge(15, 20L - (1L << 32), 0), NONE);
        Check.same("the least long", x.hinge(Long.MIN_VALUE, Long.MIN_VALUE, 0), NONE);
        Check.same("the greatest long", x.hinge(Long.MAX_VALUE, Long.MAX_VALUE, 0), NONE);
        Check.same("the least long and a right thickness", x.hinge(Long.MIN_VALUE, 20, 0), NONE);
        Check.same("the greatest long and a right overlay", x.hinge(15, Long.MAX_VALUE, 0), NONE);
    }

    private static void othersHoldAll() {
        Check.sentence("OTHERS: that hold all overlays and thicknesses it holds, with at least its angle");
        // Each of the rows behind the first one lacks one part of what the first one holds.
        HingeTables x = Check.with("h10,20,14,26,110,9;h11,20,14,26,110,9;h10,19,14,26,110,9;"
                + "h10,20,15,26,110,9;h10,20,14,25,110,9;h10,20,14,26,109,9;s1,1", 7);
        Check.same("each lacks something", x.other(0, 0), NONE);
        for (int row = 1; row <= 5; row++) {
            Check.same("but the first one holds all of row " + row, x.other(row, 0), 0);
            Check.same("and no further one", x.other(row, 1), NONE);
        }
        HingeTables y = Check.with("h10,20,14,26,110,9;h9,20,14,26,110,9;h10,21,14,26,110,9;"
                + "h10,20,13,26,110,9;h10,20,14,27,110,9;h10,20,14,26,111,9", 6);
        for (int k = 0; k < 5; k++) {
            Check.same("each holds more: other(0, " + k + ")", y.other(0, k), k + 1);
        }
        Check.same("no sixth one", y.other(0, 5), NONE);
        Check.same("the crank has no bearing", Check.with("h1,2,3,4,5,9;h1,2,3,4,5,0", 2).other(0, 0), 1);
    }

    private static void othersAreOthers() {
        Check.sentence("OTHERS of an h row: other h rows");
        Check.same("a row alone", Check.with("h1,2,3,4,5,6", 1).other(0, 0), NONE);
        HingeTables x = Check.with("h1,2,3,4,5,6;s0,99999;h1,2,3,4,5,6;c99999,99999,9", 4);
        Check.same("the same numbers", x.other(0, 0), 2);
        Check.same("not the row itself", x.other(0, 1), NONE);
        Check.same("the other way round", x.other(2, 0), 0);
        Check.same("the other way round, no more", x.other(2, 1), NONE);
    }

    private static void othersNeedStock() {
        Check.sentence("OTHERS: with STOCK");
        HingeTables x = mixed();
        x.stock(0, 0);
        Check.same("a row without stock has others", x.other(0, 0), 4);
        Check.same("a row without stock is none of the others", x.other(8, 0), 4);
        x.stock(4, 0);
        Check.same("the next one", x.other(0, 0), 8);
        Check.same("none left", x.other(8, 0), NONE);
        x.stock(4, 1);
        Check.same("one in stock is enough", x.other(8, 0), 4);
    }

    private static void othersInTheirOrder() {
        Check.sentence("other: The k-th of the OTHERS of a row");
        HingeTables x = mixed();
        Check.same("other(0, 0)", x.other(0, 0), 4);
        Check.same("other(0, 1): the same numbers", x.other(0, 1), 8);
        Check.same("other(8, 0)", x.other(8, 0), 0);
        Check.same("other(8, 1)", x.other(8, 1), 4);
    }

    private static void othersAreNotSoMany() {
        Check.sentence("other: NONE if there are not so many");
        HingeTables x = mixed();
        Check.same("other(0, 2): 9 is too thin, 3 opens too little", x.other(0, 2), NONE);
        Check.same("other(8, 2)", x.other(8, 2), NONE);
        Check.same("other(3, 0)", x.other(3, 0), NONE);
        Check.same("other(4, 0)", x.other(4, 0), NONE);
        Check.same("other(9, 0): none opens so far", x.other(9, 0), NONE);
        Check.same("other(0, 16)", x.other(0, 16), NONE);
        Check.same("other(0, 65536)", x.other(0, 65536), NONE);
        Check.same("other(0, greatest int)", x.other(0, Integer.MAX_VALUE), NONE);
    }

    private static void otherOfNoRow() {
        Check.sentence("other: IndexOutOfBoundsException: no such row, or k is below 0");
        HingeTables x = mixed();
        for (int row : WRONG_ROWS) {
            Check.fails("other(" + row + ", 0)", Check.INDEX, () -> x.other(row, 0));
        }
        Check.fails("other(0, -1)", Check.INDEX, () -> x.other(0, -1));
        Check.fails("other(0, least int)", Check.INDEX, () -> x.other(0, Integer.MIN_VALUE));
    }

    private static void otherOfNoHingeRow() {
        Check.sentence("other: IllegalArgumentException: it is no h row");
        HingeTables x = mixed();
        Check.fails("other(1, 0): an s row", Check.ARGUMENT, () -> x.other(1, 0));
        Check.fails("other(2, 0): a c row", Check.ARGUMENT, () -> x.other(2, 0));
        Check.fails("other(7, greatest int): an s row", Check.ARGUMENT, () -> x.other(7, Integer.MAX_VALUE));
    }

    private static void slideNotLonger() {
        Check.sentence("SLIDE: of s rows those not longer than depth");
        HingeTables x = mixed();
        Check.same("slide(299)", x.slide(299), NONE);
        Check.same("slide(300)", x.slide(300), 1);
        Check.same("slide(449)", x.slide(449), 1);
        Check.same("slide(499)", x.slide(499), 5);
        Check.same("slide(500)", x.slide(500), 7);
        HingeTables y = Check.with("s0,1;s99999,1", 2);
        Check.same("length 0", y.slide(0), 0);
        Check.same("length 0, depth -1", y.slide(-1), NONE);
        Check.same("length 99999, depth 99998", y.slide(99998), 0);
        Check.same("length 99999", y.slide(99999), 1);
    }

    private static void longestSlide() {
        Check.sentence("SLIDE: the longest");
        HingeTables y = Check.with("s500,1;s0,1;s300,1;h1,1,1,1,1,1;c1,1,1", 5);
        Check.same("a longer one first", y.slide(400), 2);
        Check.same("the longest one first", y.slide(600), 0);
        Check.same("the longest of all", mixed().slide(Long.MAX_VALUE), 7);
        Check.same("a depth that an int can't hold", mixed().slide(1L << 32), 7);
        Check.same("the load has no bearing", Check.with("s5,99;s6,1", 2).slide(9), 1);
    }

    private static void firstOfLongestSlides() {
        Check.sentence("SLIDE: (of several the first)");
        HingeTables x = mixed();
        Check.same("slide(450)", x.slide(450), 5);
        x.stock(5, 0);
        Check.same("slide(450) without row 5", x.slide(450), 6);
        Check.same("of three", Check.with("s4,1;s5,1;s5,9;s5,5", 4).slide(5), 1);
    }

    private static void slideNeedsStock() {
        Check.sentence("SLIDE: of s rows with STOCK");
        HingeTables x = mixed();
        x.stock(5, 0);
        x.stock(6, 0);
        Check.same("slide(450) without rows 5 and 6", x.slide(450), 1);
        x.stock(1, 0);
        Check.same("slide(450) without any", x.slide(450), NONE);
        x.stock(6, 1);
        Check.same("one in stock is enough", x.slide(450), 6);
    }

    private static void noSlide() {
        Check.sentence("slide: NONE if there is none");
        HingeTables x = mixed();
        Check.same("slide(0)", x.slide(0), NONE);
        Check.same("slide(-1)", x.slide(-1), NONE);
        Check.same("slide(least long)", x.slide(Long.MIN_VALUE), NONE);
        Check.same("slide(450 - 2 to the 32nd)", x.slide(450L - (1L << 32)), NONE);
        Check.same("no s row", Check.with("h1,1,1,1,1,1;c1,1,1", 2).slide(9), NONE);
    }

    private static void shorterTable() {
        Check.sentence("read: how many ROWS: those of a longer table before are gone");
        HingeTables x = mixed();
        Check.same("read() of a shorter table", Check.readText(x, "s5,5"), 1);
        Check.same("read() of it again", Check.readText(x, "s5,5"), 1);
        Check.same("no hinge of the table before", x.hinge(15, 20, 100), NONE);
        Check.same("no slide of the table before", x.slide(450), 0);
        Check.same("no count of the table before", x.count(), NONE);

        // Every place behind row 0 holds, from the tables before, a row that would answer.
        String hinge = "h0,99,0,99,99,0";
        HingeTables y = Check.with(hinge + ";" + hinge, 2);
        Check.same("read() of it again", Check.readText(y, hinge + ";" + hinge), 2);
        Check.same("read() of one row", Check.readText(y, "h1,2,3,4,5,6"), 1);
        Check.same("read() of one row again", Check.readText(y, "h1,2,3,4,5,6"), 1);
        Check.same("no stale hinge", y.hinge(50, 50, 50), NONE);
        Check.same("no stale other", y.other(0, 0), NONE);
        HingeTables z = Check.with("c99999,99999,4;c99999,99999,4;s7,8", 3);
        Check.same("read() of one row and then none", Check.readText(z, "c1,1,1"), 1);
        Check.same("read() of it again, over the first table", Check.readText(z, "c1,1,1"), 1);
        Check.same("no stale count", z.count(), NONE);
    }

    private static void fullTable() {
        Check.sentence("A TABLE is 1 to 16 ROWS: all calls with a full one");
        StringBuilder text = new StringBuilder("c1,1,1");
        for (int i = 1; i < 16; i++) {
            text.append(i == 15 ? ";h1,2,3,4,5,6" : ";s900,1");
        }
        HingeTables x = Check.with(text.toString(), 16);
        Check.same("hinge in the last row", x.hinge(1, 3, 5), 15);
        Check.same("no hinge in sixteen rows", x.hinge(9, 9, 9), NONE);
        Check.same("no other in sixteen rows", x.other(15, 0), NONE);
        Check.same("no slide in sixteen rows", x.slide(899), NONE);
        Check.same("the first slide of many", x.slide(900), 1);
        Check.same("no count in sixteen rows", x.count(), NONE);
        Check.yes("stock of the last row", x.stock(15, 0));
        Check.same("no hinge left", x.hinge(1, 3, 5), NONE);
        Check.fails("row(16, 0)", Check.INDEX, () -> x.row(16, 0));
        Check.fails("stock(16, 0)", Check.INDEX, () -> x.stock(16, 0));
        Check.fails("other(16, 0)", Check.INDEX, () -> x.other(16, 0));
    }
}
