import java.util.function.Consumer;

/** "A call that throws changes nothing; of several exceptions the one named first is thrown." */
public final class ThrowsTest {
    private static final int NONE = HingeTables.NONE;
    private static final String TABLE = "h10,20,14,26,110,9;s300,25;c900,9,2";
    private static final String[] NUMBERS = {"10,20,14,26,110,9", "300,25", "900,9,2"};
    private static final int[] STOCKS = {0, 1000, 9};

    public static void main(String[] args) {
        throwsWithATable();
        throwsBeyondTheTable();
        throwsWithoutATable();
        stateIsNamedFirst();
        indexIsNamedBeforeArgument();
        refusedCallsChangeNothing();
        questionsChangeNothing();
        Check.end("ThrowsTest");
    }

    /** An object with a table, stocks, a door, holes and the beginning of a text. */
    private static HingeTables used() {
        HingeTables x = Check.with(TABLE, 3);
        x.stock(0, 0);
        x.stock(1, 1000);
        furnish(x, 600);
        return x;
    }

    private static void furnish(HingeTables x, int height) {
        x.door(500, height, 20, 800);
        x.hole(0, 1, 2, 3);
        x.hole(15, -100000, 100000, 1000);
        Check.tell(x, "s1,");
    }

    private static void furnitureStands(String what, HingeTables x, int height) {
        Check.no("door after " + what, x.door(500, height, 20, 800));
        Check.no("hole 0 after " + what, x.hole(0, 1, 2, 3));
        Check.no("hole 15 after " + what, x.hole(15, -100000, 100000, 1000));
        for (int k = 1; k < 15; k++) {
            Check.no("hole " + k + " after " + what, x.hole(k, 0, 0, 0));
        }
    }

    private static void tableStands(String what, HingeTables x) {
        for (int row = 0; row < 3; row++) {
            String[] numbers = NUMBERS[row].split(",");
            Check.same("letter of row " + row + " after " + what, x.row(row, NONE), "hsc".charAt(row));
            for (int k = 0; k < numbers.length; k++) {
                Check.same("row(" + row + ", " + k + ") after " + what, x.row(row, k), Integer.parseInt(numbers[k]));
            }
            Check.no("stock of row " + row + " after " + what, x.stock(row, STOCKS[row]));
        }
        Check.fails("a fourth row after " + what, Check.INDEX, () -> x.row(3, NONE));
    }

    /** The text can be seen only by reading it, so this comes last. */
    private static void textStands(String what, HingeTables x) {
        Check.same("the rest of the text after " + what, Check.readText(x, "2;s3,4"), 2);
        Check.same("a number of the text after " + what, x.row(0, 0), 1);
        Check.same("the last number of the text after " + what, x.row(1, 1), 4);
    }

    private static void throwing(String what, Class<? extends RuntimeException> due, Consumer<HingeTables> call) {
        Check.sentence("A call that throws changes nothing; of several exceptions the one named first is thrown");
        HingeTables x = used();
        Check.fails(what, due, () -> call.accept(x));
        Check.fails(what + " again", due, () -> call.accept(x));
        furnitureStands(what, x, 600);
        tableStands(what, x);
        textStands(what, x);
    }

    private static void throwsWithATable() {
        throwing("row(3, 0)", Check.INDEX, x -> x.row(3, 0));
        throwing("row(-1, 0)", Check.INDEX, x -> x.row(-1, 0));
        throwing("row(0, 6)", Check.INDEX, x -> x.row(0, 6));
        throwing("row(0, -2)", Check.INDEX, x -> x.row(0, -2));
        throwing("stock(3, 5)", Check.INDEX, x -> x.stock(3, 5));
        throwing("stock(-1, 5)", Check.INDEX, x -> x.stock(-1, 5));
        throwing("stock(0, -1)", Check.ARGUMENT, x -> x.stock(0, -1));
        throwing("stock(2, 1001)", Check.ARGUMENT, x -> x.stock(2, 1001));
        throwing("other(3, 0)", Check.INDEX, x -> x.other(3, 0));
        throwing("other(0, -1)", Check.INDEX, x -> x.other(0, -1));
        throwing("other(1, 0)", Check.ARGUMENT, x -> x.other(1, 0));
        // One wrong number behind right ones, so that a call which takes them one by one is found out.
        throwing("door(0, 2, 3, 4)", Check.ARGUMENT, x -> x.door(0, 2, 3, 4));
        throwing("door(1, 10001, 3, 4)", Check.ARGUMENT, x -> x.door(1, 10001, 3, 4));
        throwing("door(1, 2, -3, 4)", Check.ARGUMENT, x -> x.door(1, 2, -3, 4));
        throwing("door(1, 2, 3, 10001)", Check.ARGUMENT, x -> x.door(1, 2, 3, 10001));
        throwing("weight(2)", Check.INDEX, x -> x.weight(2));
        throwing("place(2, 0)", Check.INDEX, x -> x.place(2, 0));
        throwing("place(0, 2)", Check.INDEX, x -> x.place(0, 2));
        throwing("hole(16, 7, 8, 9)", Check.INDEX, x -> x.hole(16, 7, 8, 9));
        throwing("hole(-1, 7, 8, 9)", Check.INDEX, x -> x.hole(-1, 7, 8, 9));
        throwing("hole(0, 100001, 8, 9)", Check.ARGUMENT, x -> x.hole(0, 100001, 8, 9));
        throwing("hole(0, 7, -100001, 9)", Check.ARGUMENT, x -> x.hole(0, 7, -100001, 9));
        throwing("hole(0, 7, 8, 1001)", Check.ARGUMENT, x -> x.hole(0, 7, 8, 1001));
        throwing("hole(15, 7, 8, -1)", Check.ARGUMENT, x -> x.hole(15, 7, 8, -1));
        throwing("hole(15, 100001, 0, 0)", Check.ARGUMENT, x -> x.hole(15, 100001, 0, 0));
        throwing("meet(0, 16)", Check.INDEX, x -> x.meet(0, 16));
        throwing("meet(-1, 0)", Check.INDEX, x -> x.meet(-1, 0));
        throwing("pair(-1)", Check.INDEX, x -> x.pair(-1));
        throwing("wall(10001)", Check.ARGUMENT, x -> x.wall(10001));
        throwing("corner(4, 0, 0)", Check.INDEX, x -> x.corner(4, 0, 0));
        throwing("rows32(0, 0)", Check.ARGUMENT, x -> x.rows32(0, 0));
        throwing("rows32(700, -2)", Check.ARGUMENT, x -> x.rows32(700, -2));
    }

    private static void throwsBeyondTheTable() {
        Check.sentence("A call that throws changes nothing (place, if COUNT is NONE)");
        HingeTables x = Check.with(TABLE, 3);
        x.stock(0, 0);
        x.stock(1, 1000);
        furnish(x, 901);
        Check.fails("place(0, 0)", Check.STATE, () -> x.place(0, 0));
        Check.fails("place(0, 0) again", Check.STATE, () -> x.place(0, 0));
        furnitureStands("place(0, 0)", x, 901);
        tableStands("place(0, 0)", x);
        textStands("place(0, 0)", x);
    }

    private static void throwsWithoutATable() {
        Check.sentence("A call that throws changes nothing (no table was read)");
        HingeTables x = new HingeTables();
        furnish(x, 600);
        Check.fails("row(0, 0)", Check.STATE, () -> x.row(0, 0));
        Check.fails("stock(0, 5)", Check.STATE, () -> x.stock(0, 5));
        Check.fails("hinge(5, 5, 5)", Check.STATE, () -> x.hinge(5, 5, 5));
        Check.fails("other(0, 0)", Check.STATE, () -> x.other(0, 0));
        Check.fails("slide(5)", Check.STATE, () -> x.slide(5));
        Check.fails("count()", Check.STATE, () -> x.count());
        Check.fails("place(0, 0)", Check.STATE, () -> x.place(0, 0));
        furnitureStands("calls without a table", x, 600);
        Check.fails("row(0, 0) still", Check.STATE, () -> x.row(0, 0));
        textStands("calls without a table", x);
        Check.no("the stock of the first table", x.stock(0, 9));
    }

    private static void stateIsNamedFirst() {
        Check.sentence("of several exceptions the one named first is thrown: IllegalStateException (first)");
        HingeTables x = new HingeTables();
        Check.same("a fault", Check.readText(x, "s1,"), -4);
        int[] wrong = {-2, 16, Integer.MIN_VALUE, Integer.MAX_VALUE};
        for (int w : wrong) {
            Check.fails("row(" + w + ", 0)", Check.STATE, () -> x.row(w, 0));
            Check.fails("row(0, " + w + ")", Check.STATE, () -> x.row(0, w));
            Check.fails("stock(" + w + ", 5)", Check.STATE, () -> x.stock(w, 5));
            Check.fails("stock(0, " + w + ")", Check.STATE, () -> x.stock(0, w));
            Check.fails("stock(" + w + ", " + w + ")", Check.STATE, () -> x.stock(w, w));
            Check.fails("other(" + w + ", 0)", Check.STATE, () -> x.other(w, 0));
            Check.fails("other(0, " + w + ")", Check.STATE, () -> x.other(0, w));
            Check.fails("place(" + w + ", 0)", Check.STATE, () -> x.place(w, 0));
            Check.fails("place(0, " + w + ")", Check.STATE, () -> x.place(0, w));
        }
        HingeTables beyond = Check.with("c1,1,9", 1);
        for (int w : wrong) {
            Check.fails("place(" + w + ", 0), COUNT is NONE", Check.STATE, () -> beyond.place(w, 0));
            Check.fails("place(0, " + w + "), COUNT is NONE", Check.STATE, () -> beyond.place(0, w));
        }
    }

    private static void indexIsNamedBeforeArgument() {
        throwing("stock(3, 1001)", Check.INDEX, x -> x.stock(3, 1001));
        throwing("stock(-1, -1)", Check.INDEX, x -> x.stock(-1, -1));
        throwing("other(1, -1): an s row", Check.INDEX, x -> x.other(1, -1));
        throwing("other(2, least int): a c row", Check.INDEX, x -> x.other(2, Integer.MIN_VALUE));
        throwing("other(3, -1)", Check.INDEX, x -> x.other(3, -1));
        throwing("hole(16, 100001, 0, 0)", Check.INDEX, x -> x.hole(16, 100001, 0, 0));
        throwing("hole(-1, 0, -100001, 0)", Check.INDEX, x -> x.hole(-1, 0, -100001, 0));
        throwing("hole(16, 0, 0, 1001)", Check.INDEX, x -> x.hole(16, 0, 0, 1001));
    }

    private static void refusedCallsChangeNothing() {
        Check.sentence("unit: whether there was room, and it is 33 .. 126 (and if not, nothing is another one)");
        HingeTables x = used();
        Check.no("unit(32)", x.unit(32));
        Check.no("unit(127)", x.unit(127));
        furnitureStands("unit(127)", x, 600);
        tableStands("unit(127)", x);
        textStands("unit(127)", x);

        Check.sentence("read: the table stays as before (and all else but the text)");
        HingeTables y = used();
        Check.same("read() of s1,", y.read(), -4);
        Check.same("read() of nothing", y.read(), -1);
        Check.same("read() of a table with a fault at its end", Check.readText(y, TABLE + ";h2,1"), -1 - 39);
        furnitureStands("a fault", y, 600);
        tableStands("a fault", y);

        Check.sentence("read: how many ROWS (and door and holes stay as they are)");
        HingeTables z = used();
        Check.same("read() of s1,2", Check.readText(z, "2"), 1);
        furnitureStands("another table", z, 600);
    }

    private static void questionsChangeNothing() {
        Check.sentence("Nothing is promised beyond the state changes described: a question changes nothing");
        HingeTables x = used();
        for (int i = 0; i < 2; i++) {
            Check.same("row(0, 0)", x.row(0, 0), 10);
            Check.same("hinge(15, 20, 90): no stock", x.hinge(15, 20, 90), NONE);
            Check.same("other(0, 0)", x.other(0, 0), NONE);
            Check.same("slide(300)", x.slide(300), 1);
            Check.same("weight(0)", x.weight(0), 4800);
            Check.same("count()", x.count(), 2);
            Check.same("place(1, 0)", x.place(1, 0), 520);
            Check.no("meet(0, 15)", x.meet(0, 15));
            Check.same("pair(0)", x.pair(0), NONE);
            Check.same("wall(20)", x.wall(20), 5);
            Check.same("corner(1, 0, 0)", x.corner(1, 0, 0), 65 * 500);
            Check.same("rows32(700, 1)", x.rows32(700, 1), 69);
        }
        furnitureStands("questions", x, 600);
        tableStands("questions", x);
        textStands("questions", x);
    }
}
