import java.io.IOException;
import java.lang.reflect.InvocationTargetException;
import java.lang.reflect.Method;
import java.lang.reflect.Modifier;
import java.nio.charset.StandardCharsets;
import java.nio.file.Files;
import java.nio.file.Path;
import java.util.Set;
import java.util.TreeSet;
import java.util.regex.Matcher;
import java.util.regex.Pattern;

/** The calls that README.md shows answer what it writes behind them, and it shows every call of the face. */
public final class ReadmeTest {
    private static final Pattern TEXT = Pattern.compile("for \\(char c : \"(.*)\"\\.toCharArray\\(\\)\\) \\{");
    private static final Pattern CALL = Pattern.compile("x\\.(\\w+)\\((.*)\\);\\s+// (-?\\d+|true|false): .*");

    public static void main(String[] args) throws IOException, IllegalAccessException, InvocationTargetException {
        HingeTables x = new HingeTables();
        Set<String> shown = new TreeSet<>();
        for (String line : Files.readAllLines(Path.of("README.md"), StandardCharsets.UTF_8)) {
            Matcher text = TEXT.matcher(line);
            Matcher call = CALL.matcher(line);
            if (text.matches()) {
                Check.tell(x, text.group(1));
                shown.add("unit");
            } else if (call.matches()) {
                Method method = methodOf(call.group(1));
                Object got = method.invoke(x, argumentsOf(method, call.group(2)));
                Check.yes(line + " (the answer is " + got + ")", got.toString().equals(call.group(3)));
                shown.add(method.getName());
            } else {
                Check.no("is not looked at: " + line, line.startsWith("x."));
            }
        }
        for (Method method : HingeTables.class.getDeclaredMethods()) {
            Check.yes("README.md shows " + method.getName(), shown.contains(method.getName()) || !isOfFace(method));
        }
        Check.end("ReadmeTest");
    }

    private static boolean isOfFace(Method method) {
        return Modifier.isPublic(method.getModifiers());
    }

    private static Method methodOf(String name) {
        for (Method method : HingeTables.class.getDeclaredMethods()) {
            if (isOfFace(method) && method.getName().equals(name)) {
                return method;
            }
        }
        throw new IllegalStateException("README.md shows " + name + ", which the class does not have");
    }

    private static Object[] argumentsOf(Method method, String told) {
        String[] words = told.isEmpty() ? new String[0] : told.split(", ");
        Class<?>[] types = method.getParameterTypes();
        if (words.length != types.length) {
            throw new IllegalStateException("README.md shows " + method.getName() + "(" + told + ")");
        }
        Object[] arguments = new Object[words.length];
        for (int i = 0; i < words.length; i++) {
            long value = words[i].equals("HingeTables.NONE") ? HingeTables.NONE : Long.parseLong(words[i]);
            if (types[i] == int.class) {
                arguments[i] = Math.toIntExact(value);
            } else {
                arguments[i] = value;
            }
        }
        return arguments;
    }
}
