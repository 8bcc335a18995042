/** Promises 1 to 3: a new object, unit, read. */
public final class ReadTest {
    public static void main(String[] args) {
        newObject();
        units();
        room();
        goodTexts();
        wrongLettersAndEnds();
        wrongNumbers();
        tooManyRows();
        faultKeepsTheTable();
        Check.end("ReadTest");
    }

    private static void newObject() {
        HingeTables x = new HingeTables();
        Check.fails("row of a new object", Check.STATE, () -> x.row(0, 0));
        Check.fails("hinge of a new object", Check.STATE, () -> x.hinge(1, 1, 1));
        Check.fails("count of a new object", Check.STATE, () -> x.count());
        Check.no("the door of a new object", x.door(400, 700, 19, 700));
        Check.same("weight of a new object", x.weight(0), 3724);
        Check.same("pairs of a new object", x.pair(0), HingeTables.NONE);
        Check.same("the text of a new object is empty", x.read(), -1);
    }

    private static void units() {
        HingeTables x = new HingeTables();
        int[] wrong = {32, 127, 0, -1, 10, 128, 255, 33 + 65536, 104 + 256, Integer.MIN_VALUE, Integer.MAX_VALUE};
        for (int u : wrong) {
            Check.no("unit(" + u + ")", x.unit(u));
        }
        Check.same("what was refused is not in the text", Check.readText(x, "s1,2"), 1);
        for (int u = 33; u <= 126; u++) {
            Check.yes("unit(" + u + ")", x.unit(u));
        }
        Check.same("33 can't be there", x.read(), -1);
        Check.tell(x, "s1,");
        Check.no("unit(32)", x.unit(32));
        Check.same("a refused character in the midst", Check.readText(x, "2"), 1);
    }

    /** Exactly 300 characters: eight rows of 36 and one of 4, with ; between them. */
    private static String fullText() {
        StringBuilder text = new StringBuilder();
        for (int i = 0; i < 8; i++) {
            text.append("h00000,99999,00000,99999,00170,00000;");
        }
        return text.append("s1,2").toString();
    }

    private static void room() {
        String full = fullText();
        Check.same("length of the full text", full.length(), 300);
        HingeTables x = new HingeTables();
        Check.tell(x, full);
        Check.no("a 301st character", x.unit('3'));
        Check.no("a 301st character, again", x.unit(';'));
        Check.same("read() of 300 characters", x.read(), 9);
        Check.same("the last number", x.row(8, 1), 2);
        Check.yes("there is room again", x.unit('s'));
        Check.same("read() of s", x.read(), -2);

        HingeTables y = new HingeTables();
        Check.tell(y, full.substring(0, 298) + "2");
        Check.yes("the 300th character", y.unit(','));
        Check.no("the 301st character", y.unit('1'));
        Check.same("the end of a full text, where more must come", y.read(), -301);
    }

    private static void goodTexts() {
        HingeTables x = Check.with("h00000,00000,00000,00000,00000,00000", 1);
        Check.same("a number of zeros", x.row(0, 5), 0);
        x = Check.with("h5,5,7,7,99999,99999", 1);
        Check.same("equal least and greatest", x.row(0, 1), 5);
        Check.same("five digits", x.row(0, 5), 99999);
        x = Check.with("c0,0,1", 1);
        Check.same("the least count", x.row(0, 2), 1);
        x = Check.with("c99999,99999,00009;s0,0", 2);
        Check.same("the greatest count, with zeros before it", x.row(0, 2), 9);
        x = Check.with("s1,2;h1,2,3,4,5,6;c7,8,9;s3,4", 4);
        Check.same("letter of row 2", x.row(2, HingeTables.NONE), 'c');
        Check.same("read() of no text", x.read(), -1);
    }

    private static void fault(String text, int place) {
        HingeTables x = new HingeTables();
        Check.same("read() of " + text, Check.readText(x, text), -1 - place);
        Check.fails("row after read() of " + text, Check.STATE, () -> x.row(0, 0));
        Check.same("the text is empty after read() of " + text, x.read(), -1);
    }

    private static void wrongLettersAndEnds() {
        fault("", 0);
        fault("x", 0);
        fault("H1,2,3,4,5,6", 0);
        fault(";", 0);
        fault("1", 0);
        fault("s", 1);
        fault("s,", 1);
        fault("s;", 1);
        fault("ss1,2", 1);
        fault("s-1,2", 1);
        fault("s1", 2);
        fault("s1;", 2);
        fault("s1,", 3);
        fault("s1,,2", 3);
        fault("s1,2,", 4);
        fault("s1,2,3", 4);
        fault("s1,2s3,4", 4);
        fault("s1,2;", 5);
        fault("s1,2;;", 5);
        fault("s1,2;x", 5);
        fault("s1,2;s", 6);
        fault("s1,2;s3,4;", 10);
        fault("s1,2:", 4);
        fault("s1/2", 2);
        fault("c1,2", 4);
        fault("c1,2,3,4", 6);
        fault("h1,2,3,4,5", 10);
        fault("h1,2,3,4,5,", 11);
        fault("h1,2,3,4,5,6,7", 12);
        fault("h1,2,3,4,5;", 10);
    }

    private static void wrongNumbers() {
        fault("s123456,1", 6);
        fault("s000001,1", 6);
        fault("s1,123456", 8);
        fault("h2,1,3,4,5,6", 3);
        fault("h200,199,3,4,5,6", 5);
        fault("h1,2,4,3,5,6", 7);
        fault("h1,2,4,3", 7);
        fault("h5,1x", 3);
        fault("h5,1", 3);
        fault("c1,1,0", 5);
        fault("c1,1,10", 5);
        fault("c1,1,00000", 5);
        fault("c1,1,99999", 5);
        fault("c1,1,0;s1,2", 5);
        fault("c1,1,000011", 10);
        fault("s1,2;c1,1,0", 10);
        fault("s1,2;h2,1,3,4,5,6", 8);
        // Both the number's value and its sixth digit are wrong: its first character comes first.
        fault("c1,1,123456", 5);
        fault("c1,1,000001", 5);
        fault("h50000,100000", 7);
    }

    private static void tooManyRows() {
        StringBuilder text = new StringBuilder("s0,1");
        for (int i = 1; i < 16; i++) {
            text.append(";s").append(i % 10).append(",1");
        }
        HingeTables x = Check.with(text.toString(), 16);
        Check.same("the sixteenth row", x.row(15, 0), 5);
        Check.fails("a seventeenth row", Check.INDEX, () -> x.row(16, 0));
        fault(text + ";", 79);
        fault(text + ";s1,2", 79);
        fault(text + "x", 79);
    }

    private static void faultKeepsTheTable() {
        HingeTables x = Check.with("s1,2;s3,4", 2);
        x.stock(1, 0);
        Check.same("a fault in the second row", Check.readText(x, "c5,6,7;c8"), -10);
        Check.same("letter after a fault", x.row(0, HingeTables.NONE), 's');
        Check.same("number after a fault", x.row(1, 0), 3);
        Check.no("stock after a fault", x.stock(1, 0));
        Check.same("another table", Check.readText(x, "c5,6,7"), 1);
        Check.same("letter of the other table", x.row(0, HingeTables.NONE), 'c');
        Check.fails("a row of the table before", Check.INDEX, () -> x.row(1, 0));
        x.stock(0, 4);
        Check.same("the first table again", Check.readText(x, "s1,2;s3,4"), 2);
        Check.no("all have the stock 9: row 0", x.stock(0, 9));
        Check.no("all have the stock 9: row 1", x.stock(1, 9));
    }
}
