/** Promises 1 to 3 and what the terms say of a table: each method holds to one sentence of the document. */
public final class ReadTest {
    private static final int NONE = HingeTables.NONE;

    public static void main(String[] args) {
        noTableAtFirst();
        doorAtFirst();
        unitsFrom33To126();
        unitsNeedRoom();
        refusedUnitsAreNotInTheText();
        textIsEmptyAfterRead();
        howManyRows();
        stockAfterRead();
        firstWrongCharacter();
        endWhereMoreMustCome();
        faultKeepsTheTable();
        atMost300Characters();
        oneTo16Rows();
        separatorsOfRows();
        oneToFiveDigits();
        numbersOfEachLetter();
        greatestNotBelowLeast();
        countsFromOneToNine();
        wrongNumbersAtTheirFirstCharacter();
        wrongInTwoWays();
        Check.end("ReadTest");
    }

    private static void fault(String text, int place) {
        HingeTables x = new HingeTables();
        Check.same("read() of " + text, Check.readText(x, text), -1 - place);
        Check.fails("row after read() of " + text, Check.STATE, () -> x.row(0, 0));
        Check.same("the text is empty after read() of " + text, x.read(), -1);
    }

    /** So many s rows, of four characters each. */
    private static String slides(int rows) {
        StringBuilder text = new StringBuilder("s0,1");
        for (int i = 1; i < rows; i++) {
            text.append(";s").append(i % 10).append(",1");
        }
        return text.toString();
    }

    /** Exactly 300 characters: eight rows of 36 and one of 4, with ; between them. */
    private static String fullText() {
        StringBuilder text = new StringBuilder();
        for (int i = 0; i < 8; i++) {
            text.append("h00000,99999,00000,99999,00170,00000;");
        }
        return text.append("s1,2").toString();
    }

    private static void noTableAtFirst() {
        Check.sentence("HingeTables(): No TABLE was read");
        HingeTables x = new HingeTables();
        Check.fails("row of a new object", Check.STATE, () -> x.row(0, 0));
        Check.fails("stock of a new object", Check.STATE, () -> x.stock(0, 9));
        Check.fails("hinge of a new object", Check.STATE, () -> x.hinge(1, 1, 1));
        Check.fails("other of a new object", Check.STATE, () -> x.other(0, 0));
        Check.fails("slide of a new object", Check.STATE, () -> x.slide(1));
        Check.fails("count of a new object", Check.STATE, () -> x.count());
        Check.fails("place of a new object", Check.STATE, () -> x.place(0, 0));
        Check.same("the text of a new object is empty", x.read(), -1);
        Check.fails("row after read() of nothing", Check.STATE, () -> x.row(0, NONE));
    }

    private static void doorAtFirst() {
        Check.sentence("HingeTables(): the DOOR is 400 by 700, 19 thick, with DENSITY 700");
        Check.no("the same door", new HingeTables().door(400, 700, 19, 700));
        Check.yes("width and height the other way round", new HingeTables().door(700, 400, 19, 700));
        Check.yes("another thickness", new HingeTables().door(400, 700, 18, 700));
        Check.yes("another density", new HingeTables().door(400, 700, 19, 701));
        HingeTables x = new HingeTables();
        Check.same("weight", x.weight(0), 3724);
        Check.same("the far corner's x", x.corner(2, 0, 0), 65 * 400);
        Check.same("the far corner's y", x.corner(2, 0, 1), 65 * 19);
        HingeTables y = Check.with("c700,4,2", 1);
        Check.same("height", y.place(0, 0) + y.place(1, 0), 700);
    }

    private static void unitsFrom33To126() {
        Check.sentence("unit: it is 33 .. 126");
        for (int u = -300; u <= 700; u++) {
            Check.yes("unit(" + u + ")", new HingeTables().unit(u) == (u >= 33 && u <= 126));
        }
        int[] wrapped = {65536 + 104, (1 << 24) + 104, Integer.MIN_VALUE + 104, Integer.MIN_VALUE, Integer.MAX_VALUE};
        for (int u : wrapped) {
            Check.no("unit(" + u + ")", new HingeTables().unit(u));
        }
    }

    private static void unitsNeedRoom() {
        Check.sentence("unit: whether there was room");
        HingeTables x = new HingeTables();
        for (int i = 0; i < 300; i++) {
            Check.yes("character " + i, x.unit(33 + i % 94));
        }
        Check.no("a 301st character", x.unit('h'));
        Check.no("a 301st character, again", x.unit('h'));
        Check.no("no room, and not 33 .. 126", x.unit(32));
        Check.same("read() of !", x.read(), -1);
        Check.yes("there is room again", x.unit('s'));
        Check.same("read() of s", x.read(), -2);
    }

    private static void refusedUnitsAreNotInTheText() {
        Check.sentence("unit: A character more behind the text: whether there was room, and it is 33 .. 126");
        HingeTables x = new HingeTables();
        Check.tell(x, "s1,");
        Check.no("unit(32)", x.unit(32));
        Check.no("unit(127)", x.unit(127));
        Check.no("unit(50 + 256)", x.unit(50 + 256));
        Check.same("read() of s1,2", Check.readText(x, "2"), 1);
        Check.same("length", x.row(0, 0), 1);
        Check.same("load", x.row(0, 1), 2);
        Check.tell(x, fullText());
        Check.no("a 301st character", x.unit('3'));
        Check.same("read() without the 301st character", x.read(), 9);
        Check.same("the last number", x.row(8, 1), 2);
    }

    private static void textIsEmptyAfterRead() {
        Check.sentence("read: The text (which is empty then) is read");
        HingeTables x = Check.with("s1,2", 1);
        Check.same("after a table", x.read(), -1);
        Check.same("read() of x", Check.readText(x, "x"), -1);
        Check.same("after a wrong character", x.read(), -1);
        Check.same("read() of s1,", Check.readText(x, "s1,"), -4);
        Check.same("after an end where more must come, what would have gone on", Check.readText(x, "2"), -1);
        Check.same("the table of before", x.row(0, 1), 2);
    }

    private static void howManyRows() {
        Check.sentence("read: how many ROWS");
        for (int rows = 1; rows <= 16; rows++) {
            HingeTables x = Check.with(slides(rows), rows);
            Check.same("the last of " + rows, x.row(rows - 1, 0), (rows - 1) % 10);
            int beyond = rows;
            Check.fails("a row behind the last of " + rows, Check.INDEX, () -> x.row(beyond, 0));
        }
    }

    private static void stockAfterRead() {
        Check.sentence("read: all have the STOCK 9 then");
        HingeTables x = Check.with(slides(16), 16);
        for (int row = 0; row < 16; row++) {
            Check.no("stock(" + row + ", 9) of the first table", x.stock(row, 9));
            x.stock(row, row);
        }
        Check.same("the same table again", Check.readText(x, slides(16)), 16);
        for (int row = 0; row < 16; row++) {
            Check.no("stock(" + row + ", 9) of the second table", x.stock(row, 9));
            x.stock(row, 0);
        }
        Check.same("a third table", Check.readText(x, slides(16)), 16);
        for (int row = 0; row < 16; row++) {
            Check.no("stock(" + row + ", 9) of the third table", x.stock(row, 9));
        }
    }

    private static void firstWrongCharacter() {
        Check.sentence("read: -1 less the place of the first character that can't be there");
        fault("x", 0);
        fault("H1,2,3,4,5,6", 0);
        fault("1", 0);
        fault("ss1,2", 1);
        fault("s-1,2", 1);
        fault("s1,2s3,4", 4);
        fault("s1,2;x", 5);
        fault("s1,2:", 4);
        fault("s1/2", 2);
        // Of several characters that can't be there the first one is told.
        fault("s1x2y;z", 2);
        fault("s1,2;!,s1", 5);
        // Each character but a digit or a sign that may follow is told at its place, wherever it stands.
        String table = "h1,2,3,4,5,6;s7,8;c9,9,9";
        for (int place = 0; place < table.length(); place++) {
            for (char c : "!~x/:".toCharArray()) {
                fault(table.substring(0, place) + c + table.substring(place + 1), place);
            }
        }
    }

    private static void endWhereMoreMustCome() {
        Check.sentence("read: or of its end, if more must come");
        fault("", 0);
        String table = "h1,2,3,4,5,6;s7,8;c9,9,9";
        for (int length = 0; length <= table.length(); length++) {
            String text = table.substring(0, length);
            int due = length == 12 ? 1 : length == 17 ? 2 : length == 24 ? 3 : -1 - length;
            Check.same("read() of " + text, Check.readText(new HingeTables(), text), due);
        }
        HingeTables x = new HingeTables();
        Check.tell(x, fullText().substring(0, 298) + "1,");
        Check.no("no room for more", x.unit('2'));
        Check.same("the end of a full text", x.read(), -1 - 300);
    }

    private static void faultKeepsTheTable() {
        Check.sentence("read: the table stays as before");
        String[] faults = {"", "x", "c5,6,7;c8", "c5,6,7;c8,9,10", "h1,2,3,4,5,6;h7,8,9,8", slides(16) + ";"};
        for (String text : faults) {
            HingeTables x = Check.with("s1,2;s3,4", 2);
            x.stock(1, 0);
            Check.yes("a fault in " + text, Check.readText(x, text) < 0);
            Check.same("letter after a fault", x.row(0, NONE), 's');
            Check.same("numbers after a fault", x.row(0, 0) + 10 * x.row(0, 1), 21);
            Check.same("numbers of row 1 after a fault", x.row(1, 0) + 10 * x.row(1, 1), 43);
            Check.fails("a row more after a fault", Check.INDEX, () -> x.row(2, 0));
            Check.no("stock of row 0 after a fault", x.stock(0, 9));
            Check.no("stock of row 1 after a fault", x.stock(1, 0));
            Check.same("slide after a fault", x.slide(9), 0);
            Check.same("another table", Check.readText(x, "c5,6,7"), 1);
            Check.same("letter of the other table", x.row(0, NONE), 'c');
            Check.fails("a row of the table before", Check.INDEX, () -> x.row(1, 0));
        }
    }

    private static void atMost300Characters() {
        Check.sentence("A TABLE is a text of at most 300 characters");
        String full = fullText();
        Check.same("length of the full text", full.length(), 300);
        HingeTables x = Check.with(full, 9);
        Check.same("the last row", x.row(8, 0), 1);
        Check.same("the row before it", x.row(7, 3), 99999);
        fault(full.substring(0, 299), 299);
        Check.with(full.substring(0, 295), 8);
        HingeTables y = new HingeTables();
        Check.tell(y, full);
        Check.no("a 301st character", y.unit('2'));
        Check.same("read() without the 301st character", y.read(), 9);
        Check.same("the last number", y.row(8, 1), 2);
    }

    private static void oneTo16Rows() {
        Check.sentence("A TABLE is 1 to 16 ROWS");
        fault("", 0);
        Check.with("s0,1", 1);
        HingeTables x = Check.with(slides(16), 16);
        Check.same("the sixteenth row", x.row(15, 0), 5);
        Check.fails("a seventeenth row", Check.INDEX, () -> x.row(16, 0));
        fault(slides(16) + ";", 79);
        fault(slides(16) + ";s1,2", 79);
        fault(slides(16) + "x", 79);
        fault(slides(17), 79);
        // The sixteenth row itself may still be wrong.
        fault(slides(15) + ";s1", 77);
        fault(slides(15) + ";", 75);
    }

    private static void separatorsOfRows() {
        Check.sentence("ROWS with ; (59) between them, each a letter and numbers with , (44) between them");
        fault(";", 0);
        fault(";s1,2", 0);
        fault("s1,2;", 5);
        fault("s1,2;;", 5);
        fault("s1,2;;s3,4", 5);
        fault("s1,2;s3,4;", 10);
        fault("s1,2,s3,4", 4);
        fault("s;", 1);
        fault("s,", 1);
        fault("s,1,2", 1);
        fault("s1;", 2);
        fault("s1;2", 2);
        fault("s1,", 3);
        fault("s1,,2", 3);
        fault("s1,2,", 4);
        HingeTables x = Check.with("s1,2;h1,2,3,4,5,6;c7,8,9;s3,4", 4);
        Check.same("letters", x.row(0, NONE) + x.row(1, NONE) + x.row(2, NONE), 's' + 'h' + 'c');
    }

    private static void oneToFiveDigits() {
        Check.sentence("numbers (1 to 5 digits)");
        String[] rows = {"h#,#,#,#,#,#", "s#,#", "c#,#,#"};
        for (String row : rows) {
            for (int place = 0; place < row.length(); place++) {
                if (row.charAt(place) == '#') {
                    String before = row.substring(0, place).replace('#', '5');
                    String behind = row.substring(place + 1).replace('#', '7');
                    fault(before + behind, place);
                    Check.with(before + "7" + behind, 1);
                    Check.with(before + "00007" + behind, 1);
                    fault(before + "000007" + behind, before.endsWith("c5,5,") || isGreatest(row, place)
                            ? place : place + 5);
                }
            }
        }
        HingeTables x = Check.with("h00000,99999,00000,99999,99999,99999", 1);
        Check.same("five zeros", x.row(0, 0), 0);
        Check.same("five nines", x.row(0, 5), 99999);
        fault("s123456,1", 6);
        fault("s1,123456", 8);
        fault("s99999,100000", 12);
    }

    /** Five zeros there are below the 5 before them, so the number is wrong by its value too. */
    private static boolean isGreatest(String row, int place) {
        return row.charAt(0) == 'h' && (place == 3 || place == 7);
    }

    private static void numbersOfEachLetter() {
        Check.sentence("h (104) six, s (115) two, c (99) three");
        Check.with("h1,2,3,4,5,6", 1);
        fault("h1,2,3,4,5", 10);
        fault("h1,2,3,4,5;", 10);
        fault("h1,2,3,4,5,", 11);
        fault("h1,2,3,4,5,6,", 12);
        fault("h1,2,3,4,5,6,7", 12);
        Check.with("s1,2", 1);
        fault("s1", 2);
        fault("s", 1);
        fault("s1,2,3", 4);
        Check.with("c1,2,3", 1);
        fault("c1,2", 4);
        fault("c1,2,3,4", 6);
        for (int c = 33; c <= 126; c++) {
            if (c != 'h' && c != 's' && c != 'c') {
                fault((char) c + "1,2,3", 0);
            }
        }
    }

    private static void greatestNotBelowLeast() {
        Check.sentence("The second number of a pair of least and greatest is not below the first one");
        HingeTables x = Check.with("h5,5,7,7,1,0", 1);
        Check.same("equal overlays", x.row(0, 1), 5);
        Check.same("equal thicknesses", x.row(0, 3), 7);
        Check.with("h0,0,0,0,0,0", 1);
        Check.with("h99999,99999,99999,99999,0,0", 1);
        fault("h5,4,7,7,1,0", 3);
        fault("h5,5,7,6,1,0", 7);
        fault("h1,0,0,0,0,0", 3);
        fault("h99999,99998,0,0,0,0", 7);
        fault("h0,0,99999,99998,0,0", 11);
        // They are compared as numbers, not as texts.
        Check.with("h9,10,009,10,0,0", 1);
        fault("h10,9,1,1,1,1", 4);
        fault("h10,00009,1,1,1,1", 4);
        // Only these are pairs: thickness below overlay, angle below thickness and so on are fine.
        Check.with("h8,9,6,7,5,4", 1);
        Check.with("s9,8;c9,8,7", 2);
    }

    private static void countsFromOneToNine() {
        Check.sentence("a count is 1 .. 9");
        for (int count = 0; count <= 120; count++) {
            HingeTables x = new HingeTables();
            Check.same("count " + count, Check.readText(x, "c0,0," + count), count >= 1 && count <= 9 ? 1 : -6);
        }
        Check.same("zeros before it", Check.with("c1,1,00009", 1).row(0, 2), 9);
        fault("c1,1,00000", 5);
        fault("c1,1,00010", 5);
        fault("c1,1,99999", 5);
        // Height and grams have no such bounds.
        Check.with("c0,0,1;c99999,99999,9", 2);
    }

    private static void wrongNumbersAtTheirFirstCharacter() {
        Check.sentence("(What is wrong by that is told at the number's first character.)");
        fault("h200,199,3,4,5,6", 5);
        fault("h1,2,400,399", 9);
        fault("h5,1", 3);
        fault("h5,1x", 3);
        fault("h5,1,", 3);
        fault("h5,1;", 3);
        fault("c1,1,0;s1,2", 5);
        fault("c1,1,10;x", 5);
        fault("c1,1,10x", 5);
        fault("s1,2;c1,1,0", 10);
        fault("s1,2;h2,1,3,4,5,6", 8);
        // Of two wrong numbers the first one is told.
        fault("h2,1,4,3,5,6", 3);
        fault("c1,1,0;c1,1,0", 5);
    }

    private static void wrongInTwoWays() {
        Check.sentence("the first character that can't be there: a number wrong by its value and by a sixth digit");
        fault("c1,1,123456", 5);
        fault("c1,1,000001", 5);
        fault("h50000,100000", 7);
        fault("c1,1,000011", 10);
        fault("h50000,500000", 12);
    }
}
