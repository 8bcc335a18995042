import java.util.regex.Matcher;
import java.util.regex.Pattern;

/** Promise 3 by other means: many texts, right and spoilt, are read by a pattern of the Java library too. */
public final class ReadByPatternTest {
    private static final String NUMBER = "\\d{1,5}";
    private static final String ROW = "(?:h" + NUMBER + "(?:," + NUMBER + "){5}|s" + NUMBER + "," + NUMBER
            + "|c" + NUMBER + "(?:," + NUMBER + "){2})";
    private static final Pattern TABLE = Pattern.compile(ROW + "(?:;" + ROW + "){0,15}");
    private static final String SPOILERS = "hsc0123456789,;,;x!~";
    private static final int TEXTS = 20000;

    private static long seed = 20261115L;

    /** A row of numbers that is the same in each run of the test. */
    private static int next(int bound) {
        seed = seed * 6364136223846793005L + 1442695040888963407L;
        return (int) ((seed >>> 33) % bound);
    }

    public static void main(String[] args) {
        int good = 0;
        for (int i = 0; i < TEXTS; i++) {
            String text = spoil(table(), next(3));
            int due = due(text);
            good += due > 0 ? 1 : 0;
            Check.same("read() of " + text, Check.readText(new HingeTables(), text), due);
        }
        Check.yes("some texts are right, some are wrong", good > TEXTS / 10 && good < TEXTS * 9 / 10);
        Check.end("ReadByPatternTest");
    }

    /** Most of these are right; some have too many rows, a sixth digit, or a wrong span or count. */
    private static String table() {
        StringBuilder text = new StringBuilder();
        boolean many = next(4) == 0;
        int rows = many ? 14 + next(4) : 1 + next(4);
        for (int row = 0; row < rows; row++) {
            text.append(row == 0 ? "" : ";");
            switch (many ? 0 : next(3)) {
                case 0 -> text.append('s').append(number()).append(',').append(number());
                case 1 -> text.append('c').append(number()).append(',').append(number()).append(',')
                        .append(next(12) == 0 ? next(100) : 1 + next(9));
                default -> text.append('h').append(span()).append(',').append(span()).append(',')
                        .append(number()).append(',').append(number());
            }
        }
        return text.toString();
    }

    private static String span() {
        int least = 1 + next(500);
        int greatest = least - 1 + next(30);
        return least + "," + greatest;
    }

    private static String number() {
        int digits = next(60) == 0 ? 6 : 1 + next(5);
        StringBuilder text = new StringBuilder();
        for (int i = 0; i < digits; i++) {
            text.append(next(10));
        }
        return text.toString();
    }

    private static String spoil(String text, int times) {
        StringBuilder spoilt = new StringBuilder(text);
        for (int i = 0; i < times && spoilt.length() > 0; i++) {
            int place = next(spoilt.length());
            char c = SPOILERS.charAt(next(SPOILERS.length()));
            switch (next(4)) {
                case 0 -> spoilt.setCharAt(place, c);
                case 1 -> spoilt.insert(place, c);
                case 2 -> spoilt.deleteCharAt(place);
                default -> spoilt.setLength(place);
            }
        }
        spoilt.setLength(Math.min(spoilt.length(), 300));
        return spoilt.toString();
    }

    private static int due(String text) {
        int fit = fittingLength(text);
        int wrongNumber = placeOfWrongNumber(text.substring(0, fit));
        if (wrongNumber >= 0) {
            return -1 - wrongNumber;
        }
        return fit == text.length() && TABLE.matcher(text).matches() ? text.split(";").length : -1 - fit;
    }

    /** How many characters from the beginning some table could begin with, but for its numbers' values. */
    private static int fittingLength(String text) {
        int fit = 0;
        while (fit < text.length()) {
            Matcher matcher = TABLE.matcher(text.substring(0, fit + 1));
            if (!matcher.matches() && !matcher.hitEnd()) {
                return fit;
            }
            fit++;
        }
        return fit;
    }

    private static int placeOfWrongNumber(String text) {
        int start = 0;
        for (String row : text.split(";")) {
            int place = start + 1;
            String[] numbers = row.isEmpty() ? new String[0] : row.substring(1).split(",");
            for (int k = 0; k < numbers.length; k++) {
                boolean greatest = row.charAt(0) == 'h' && (k == 1 || k == 3);
                boolean count = row.charAt(0) == 'c' && k == 2;
                if (!numbers[k].isEmpty()) {
                    int value = Integer.parseInt(numbers[k]);
                    if (greatest && value < Integer.parseInt(numbers[k - 1]) || count && (value < 1 || value > 9)) {
                        return place;
                    }
                }
                place += numbers[k].length() + 1;
            }
            start += row.length() + 1;
        }
        return -1;
    }
}
