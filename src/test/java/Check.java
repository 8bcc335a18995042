/** What the tests share: they count what is wrong, and end with exit code 1 if something was. */
final class Check {
    /** A call that is expected to throw. */
    interface Call {
        void run();
    }

    static final Class<IllegalStateException> STATE = IllegalStateException.class;
    static final Class<IndexOutOfBoundsException> INDEX = IndexOutOfBoundsException.class;
    static final Class<IllegalArgumentException> ARGUMENT = IllegalArgumentException.class;

    private static int checks = 0;
    private static int wrong = 0;
    private static String sentence = "";

    private Check() {
    }

    /** The document's words that the checks from here on hold to; they are printed with each one that is wrong. */
    static void sentence(String words) {
        sentence = words;
    }

    static void same(String what, long got, long due) {
        checks++;
        if (got != due) {
            say(what + " answered " + got + ", due is " + due);
        }
    }

    static void yes(String what, boolean got) {
        checks++;
        if (!got) {
            say(what + " answered false, due is true");
        }
    }

    static void no(String what, boolean got) {
        checks++;
        if (got) {
            say(what + " answered true, due is false");
        }
    }

    /** The class must be just that one, since what the machine throws is often a class below it. */
    static void fails(String what, Class<? extends RuntimeException> due, Call call) {
        checks++;
        Class<?> got = null;
        try {
            call.run();
        } catch (RuntimeException e) {
            got = e.getClass();
        }
        if (got != due) {
            say(what + " threw " + (got == null ? "nothing" : got.getName()) + ", due is " + due.getName());
        }
    }

    static void tell(HingeTables x, String text) {
        for (int i = 0; i < text.length(); i++) {
            yes("unit(" + text.charAt(i) + ") of " + text, x.unit(text.charAt(i)));
        }
    }

    static int readText(HingeTables x, String text) {
        tell(x, text);
        return x.read();
    }

    /** A new object with this table, which must have so many rows. */
    static HingeTables with(String text, int rows) {
        HingeTables x = new HingeTables();
        same("read() of " + text, readText(x, text), rows);
        return x;
    }

    static void end(String name) {
        System.out.println(name + ": " + checks + " checks, " + wrong + " wrong");
        if (wrong > 0) {
            System.exit(1);
        }
    }

    private static void say(String line) {
        wrong++;
        System.out.println(line + (sentence.isEmpty() ? "" : " (\"" + sentence + "\")"));
    }
}
