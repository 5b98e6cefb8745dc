import java.io.IOException;
import java.lang.reflect.Constructor;
import java.lang.reflect.Field;
import java.lang.reflect.Method;
import java.lang.reflect.Modifier;
import java.nio.file.Files;
import java.nio.file.Path;
import java.util.Arrays;
import java.util.Set;
import java.util.TreeSet;
import java.util.regex.Matcher;
import java.util.regex.Pattern;

/** The face is the document's, name by name, and the file keeps to what LANGUAGE.md leaves. */
public final class FaceTest {
    private static final String[] FACE = {
        "int size(int, int) IllegalArgumentException",
        "int put(int, int, int) IndexOutOfBoundsException, IllegalArgumentException",
        "int points(int, int, int, int) IllegalArgumentException",
        "int mend()",
        "int find(int) IllegalArgumentException, IllegalStateException",
        "int weigh(int) IllegalArgumentException, IllegalStateException",
        "int unweigh() IllegalStateException",
        "int append(int) IllegalArgumentException, IllegalStateException",
        "int clearBuffer()",
        "int firstError()",
        "int load() IllegalArgumentException",
        "int keep(int) IllegalArgumentException",
        "int goBack(int) IllegalArgumentException, IllegalStateException",
        "int undo() IllegalStateException",
        "int cell(int, int) IndexOutOfBoundsException",
        "int place(int, int) IndexOutOfBoundsException, IllegalArgumentException",
        "int looks(int) IllegalArgumentException",
        "int bound()",
        "int witness(int) IllegalArgumentException",
        "int count(int) IllegalArgumentException",
        "int weight(int) IndexOutOfBoundsException",
        "int cost(int, int) IllegalArgumentException",
        "int cut(int, int) IllegalArgumentException",
        "int fewestParts(int) IllegalArgumentException",
        "double halfShare()",
        "long digest()",
    };

    /** What no line of the file may have, with the rule that forbids it. */
    private static final String[][] FORBIDDEN = {
        {"\\bimport\\b|\\bpackage\\b", "4: no library is imported"},
        {"->|::", "2: no lambda and no method reference"},
        {"\\btry\\b|\\bcatch\\b|\\bfinally\\b", "6: nothing is caught"},
        {"\\bsynchronized\\b|\\bassert\\b", "6: no synchronized, no assert"},
        {"\\bDouble\\b|\\bFloat\\b|\\bSystem\\.(?!arraycopy)|\\bThread\\b|\\bRandom\\b", "4, 13: no such library"},
        {"Exact\\b", "4: none of those whose name ends in Exact"},
        {"\\bprotected\\b|\\bvolatile\\b|\\btransient\\b|\\bnative\\b", "1: no other member"},
        {"[^\\x00-\\x7f]", "4: plain characters"},
    };

    public static void main(String[] args) throws IOException {
        members();
        nestedClasses();
        source();
        Check.end();
    }

    private static String simple(Class<?>[] classes) {
        StringBuilder names = new StringBuilder();
        for (Class<?> c : classes) {
            names.append(names.length() == 0 ? "" : ", ").append(c.getSimpleName());
        }
        return names.toString();
    }

    private static void members() {
        Set<String> due = new TreeSet<>(Arrays.asList(FACE));
        Set<String> names = new TreeSet<>();
        Set<String> found = new TreeSet<>();
        for (Method m : LeastRows.class.getDeclaredMethods()) {
            if (Modifier.isPublic(m.getModifiers())) {
                names.add(m.getName());
                String throwing = simple(m.getExceptionTypes());
                found.add(m.getReturnType() + " " + m.getName() + "(" + simple(m.getParameterTypes()) + ")"
                    + (throwing.isEmpty() ? "" : " " + throwing));
            }
        }
        Check.holds("the methods are " + found, found.equals(due));
        for (Method m : LeastRows.class.getDeclaredMethods()) {
            int kind = m.getModifiers();
            Check.holds(m + " is public or private", Modifier.isPublic(kind) || Modifier.isPrivate(kind));
            Check.holds(m + " bears the name of a public one", Modifier.isPublic(kind) || !names.contains(m.getName()));
        }
        for (Field f : LeastRows.class.getDeclaredFields()) {
            boolean isConstant = f.getName().equals("NONE");
            Check.holds(f + " is private, or NONE", isConstant || Modifier.isPrivate(f.getModifiers()));
            Check.holds(f + " is final", Modifier.isFinal(f.getModifiers()));
        }
        Constructor<?>[] made = LeastRows.class.getDeclaredConstructors();
        Check.equal("constructors", made.length, 1);
        Check.holds("the constructor is public", Modifier.isPublic(made[0].getModifiers()));
        Check.equal("its parameters", made[0].getParameterCount(), 0);
        int kind = LeastRows.class.getModifiers();
        Check.holds("public and final", Modifier.isPublic(kind) && Modifier.isFinal(kind));
    }

    private static void nestedClasses() {
        Class<?>[] inside = LeastRows.class.getDeclaredClasses();
        Check.holds("some twelve classes at most", inside.length < 12);
        Set<String> names = new TreeSet<>();
        for (String line : FACE) {
            names.add(line.substring(line.indexOf(' ') + 1, line.indexOf('(')));
        }
        for (Class<?> c : inside) {
            Check.holds(c + " is private", Modifier.isPrivate(c.getModifiers()));
            Check.holds(c + " is static", Modifier.isStatic(c.getModifiers()));
            for (Method m : c.getDeclaredMethods()) {
                Check.holds(m + " bears the name of a public one", !names.contains(m.getName()));
                Check.holds(m + " has too many parameters", m.getParameterCount() <= 7);
            }
            for (Field f : c.getDeclaredFields()) {
                boolean isFinal = Modifier.isFinal(f.getModifiers());
                Check.holds(f + " is no static state", isFinal || !Modifier.isStatic(f.getModifiers()));
            }
        }
    }

    private static void source() throws IOException {
        String text = Files.readString(Path.of("src/main/java/LeastRows.java"));
        String code = text.replaceAll("(?s)/\\*.*?\\*/", "").replaceAll("//[^\n]*", "");
        String bare = code.replaceAll("\"[^\"\n]*\"", "\"\"");
        for (String[] rule : FORBIDDEN) {
            Matcher m = Pattern.compile(rule[0]).matcher(bare);
            Check.holds("rule " + rule[1], !m.find());
        }
        Matcher thrown = Pattern.compile("throw\\s+new\\s+(\\w+)").matcher(bare);
        while (thrown.find()) {
            Check.holds("rule 6: " + thrown.group(1),
                thrown.group(1).matches("Illegal(State|Argument)Exception|IndexOutOfBoundsException"));
        }
        int start = 0;
        int line = 0;
        for (String s : text.split("\n")) {
            line++;
            if (s.matches(" {4,8}\\S.*\\{") || s.matches(" {12}throws .*\\{")) {
                start = line;
            }
            if (s.matches(" {4,8}\\}")) {
                Check.holds("rule 11: the method that ends in line " + line + " is long", line - start <= 60);
            }
        }
    }
}
