import java.lang.reflect.Constructor;
import java.lang.reflect.Field;
import java.lang.reflect.Method;
import java.lang.reflect.Modifier;
import java.util.Arrays;
import java.util.Set;
import java.util.TreeSet;

/** The face is the document's, name by name, and nothing else of the class can be seen. */
public final class FaceTest {
    private static final String[] FACE = {
        "int size(int, int) IllegalArgumentException",
        "int put(int, int, int) IndexOutOfBoundsException, IllegalArgumentException",
        "int points(int, int, int, int) IllegalArgumentException",
        "int mend()",
        "int find(int) IllegalArgumentException, IllegalStateException",
        "int weigh(int) IllegalArgumentException, IllegalStateException",
        "int unweigh() IllegalStateException",
        "int append(int) IllegalArgumentException, IllegalStateException",
        "int clearBuffer()",
        "int firstError()",
        "int load() IllegalArgumentException",
        "int keep(int) IllegalArgumentException",
        "int goBack(int) IllegalArgumentException, IllegalStateException",
        "int undo() IllegalStateException",
        "int cell(int, int) IndexOutOfBoundsException",
        "int place(int, int) IndexOutOfBoundsException, IllegalArgumentException",
        "int looks(int) IllegalArgumentException",
        "int bound()",
        "int witness(int) IllegalArgumentException",
        "int count(int) IllegalArgumentException",
        "int weight(int) IndexOutOfBoundsException",
        "int cost(int, int) IllegalArgumentException",
        "int cut(int, int) IllegalArgumentException",
        "int fewestParts(int) IllegalArgumentException",
        "double halfShare()",
        "long digest()",
    };

    public static void main(String[] args) {
        members();
        nestedClasses();
        Check.end();
    }

    private static String simple(Class<?>[] classes) {
        StringBuilder names = new StringBuilder();
        for (Class<?> c : classes) {
            names.append(names.length() == 0 ? "" : ", ").append(c.getSimpleName());
        }
        return names.toString();
    }

    private static void members() {
        Set<String> due = new TreeSet<>(Arrays.asList(FACE));
        Set<String> names = new TreeSet<>();
        Set<String> found = new TreeSet<>();
        for (Method m : LeastRows.class.getDeclaredMethods()) {
            if (Modifier.isPublic(m.getModifiers())) {
                names.add(m.getName());
                String throwing = simple(m.getExceptionTypes());
                found.add(m.getReturnType() + " " + m.getName() + "(" + simple(m.getParameterTypes()) + ")"
                    + (throwing.isEmpty() ? "" : " " + throwing));
            }
        }
        Check.holds("the methods are " + found, found.equals(due));
        for (Method m : LeastRows.class.getDeclaredMethods()) {
            int kind = m.getModifiers();
            Check.holds(m + " is public or private", Modifier.isPublic(kind) || Modifier.isPrivate(kind));
            Check.holds(m + " bears the name of a public one", Modifier.isPublic(kind) || !names.contains(m.getName()));
        }
        for (Field f : LeastRows.class.getDeclaredFields()) {
            boolean isConstant = f.getName().equals("NONE");
            Check.holds(f + " is private, or NONE", isConstant || Modifier.isPrivate(f.getModifiers()));
            Check.holds(f + " is final", Modifier.isFinal(f.getModifiers()));
        }
        Constructor<?>[] made = LeastRows.class.getDeclaredConstructors();
        Check.equal("constructors", made.length, 1);
        Check.holds("the constructor is public", Modifier.isPublic(made[0].getModifiers()));
        Check.equal("its parameters", made[0].getParameterCount(), 0);
        int kind = LeastRows.class.getModifiers();
        Check.holds("public and final", Modifier.isPublic(kind) && Modifier.isFinal(kind));
    }

    private static void nestedClasses() {
        Class<?>[] inside = LeastRows.class.getDeclaredClasses();
        Check.holds("some twelve classes at most", inside.length < 12);
        Set<String> names = new TreeSet<>();
        for (String line : FACE) {
            names.add(line.substring(line.indexOf(' ') + 1, line.indexOf('(')));
        }
        for (Class<?> c : inside) {
            Check.holds(c + " is private", Modifier.isPrivate(c.getModifiers()));
            Check.holds(c + " is static", Modifier.isStatic(c.getModifiers()));
            for (Method m : c.getDeclaredMethods()) {
                Check.holds(m + " bears the name of a public one", !names.contains(m.getName()));
                Check.holds(m + " has too many parameters", m.getParameterCount() <= 7);
            }
            for (Field f : c.getDeclaredFields()) {
                boolean isFinal = Modifier.isFinal(f.getModifiers());
                Check.holds(f + " is no static state", isFinal || !Modifier.isStatic(f.getModifiers()));
            }
        }
    }
}
