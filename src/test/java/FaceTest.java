import java.lang.reflect.Constructor;
import java.lang.reflect.Field;
import java.lang.reflect.Method;
import java.lang.reflect.Modifier;
import java.util.Arrays;
import java.util.List;
import java.util.Set;
import java.util.TreeSet;

/** The class has the document's public face, and nothing more that others can see. */
public final class FaceTest {
    private static final List<String> METHODS = List.of(
            "boolean unit(int)",
            "int read()",
            "int row(int,int) IllegalStateException IndexOutOfBoundsException",
            "boolean stock(int,int) IllegalArgumentException IllegalStateException IndexOutOfBoundsException",
            "int hinge(long,long,int) IllegalStateException",
            "int other(int,int) IllegalArgumentException IllegalStateException IndexOutOfBoundsException",
            "int slide(long) IllegalStateException",
            "boolean door(long,long,long,long) IllegalArgumentException",
            "long weight(int) IndexOutOfBoundsException",
            "int count() IllegalStateException",
            "long place(int,int) IllegalStateException IndexOutOfBoundsException",
            "boolean hole(int,long,long,long) IllegalArgumentException IndexOutOfBoundsException",
            "boolean meet(int,int) IndexOutOfBoundsException",
            "int pair(int) IndexOutOfBoundsException",
            "int wall(long) IllegalArgumentException",
            "long corner(int,int,int) IndexOutOfBoundsException",
            "int rows32(long,int) IllegalArgumentException");

    public static void main(String[] args) {
        Class<HingeTables> face = HingeTables.class;
        Check.yes("public final", Modifier.isPublic(face.getModifiers()) && Modifier.isFinal(face.getModifiers()));
        Check.same("NONE", HingeTables.NONE, -1);

        Set<String> seen = new TreeSet<>();
        Set<String> names = new TreeSet<>();
        for (Method m : face.getDeclaredMethods()) {
            if (!Modifier.isPrivate(m.getModifiers())) {
                Check.yes(m + " is public, not static", m.getModifiers() == Modifier.PUBLIC);
                seen.add(told(m));
                names.add(m.getName());
            }
        }
        Check.yes("the methods " + seen, seen.equals(new TreeSet<>(METHODS)));
        for (Method m : face.getDeclaredMethods()) {
            Check.no("a private " + m.getName(), Modifier.isPrivate(m.getModifiers()) && names.contains(m.getName()));
        }

        Constructor<?>[] constructors = face.getDeclaredConstructors();
        Check.same("constructors", constructors.length, 1);
        Check.same("parameters of the constructor", constructors[0].getParameterCount(), 0);
        Check.yes("a public constructor", Modifier.isPublic(constructors[0].getModifiers()));

        for (Field f : face.getDeclaredFields()) {
            Check.yes("only NONE is seen, not " + f.getName(),
                    f.getName().equals("NONE") || Modifier.isPrivate(f.getModifiers()));
            Check.yes("a static field is final: " + f.getName(),
                    !Modifier.isStatic(f.getModifiers()) || Modifier.isFinal(f.getModifiers()));
        }
        Check.end("FaceTest");
    }

    private static String told(Method m) {
        StringBuilder line = new StringBuilder();
        line.append(m.getReturnType()).append(' ').append(m.getName()).append('(');
        Class<?>[] types = m.getParameterTypes();
        for (int i = 0; i < types.length; i++) {
            line.append(i == 0 ? "" : ",").append(types[i]);
        }
        line.append(')');
        String[] thrown = Arrays.stream(m.getExceptionTypes()).map(Class::getSimpleName).sorted()
                .toArray(String[]::new);
        for (String name : thrown) {
            line.append(' ').append(name);
        }
        return line.toString();
    }
}
