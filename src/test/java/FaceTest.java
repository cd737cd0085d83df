import java.io.IOException;
import java.lang.reflect.Constructor;
import java.lang.reflect.Field;
import java.lang.reflect.Method;
import java.lang.reflect.Modifier;
import java.nio.file.Files;
import java.nio.file.Path;
import java.util.Arrays;
import java.util.List;
import java.util.Set;
import java.util.TreeSet;

/** The public face, the constants, and those rules of LANGUAGE.md that can be seen in the class or its text. */
public final class FaceTest {
    private static final Set<String> FACE = Set.of(
        "int block(int,int,int)", "int place(int,int,int,int,int)", "int mortar(int,int,boolean)",
        "int rate(int,int,int,int)", "int limit(int)", "int told(int,int,int)", "int count(int)",
        "int worst(int,int)", "int look(int,int,int,int)", "int habit(int,int,int)", "long state(int,int,int,int)",
        "int feed(int,long)", "int read()", "int fault()", "int judged(int,int)", "int acts(int,int)",
        "int works(int,int,int,int,int)", "int lot(int,int,int,int,int)", "int match(int,int,int,int,int)",
        "int take(int)");
    private static final List<String> BARRED = List.of("throw", "throws", "try", "catch", "synchronized", "assert",
        "->", "::", "double", "float", "hashCode", "toString", "Exact(", "System.nano", "System.current", "Object",
        "Integer.MAX", "Integer.MIN", "Long.");

    public static void main(String[] args) throws IOException {
        constants();
        methods();
        nested();
        text();
        Due.end();
    }

    private static void constants() {
        Due.is("NONE", StoneKeep.NONE, -1);
        Due.is("UNKNOWN", StoneKeep.UNKNOWN, -1001);
        Due.is("OUTSIDE", StoneKeep.OUTSIDE, -1002);
        Due.is("NOT", StoneKeep.NOT, -1003);
        Due.is("FULL", StoneKeep.FULL, -1004);
        Set<String> open = new TreeSet<>();
        for (Field f : StoneKeep.class.getDeclaredFields()) {
            if (!Modifier.isPrivate(f.getModifiers())) {
                open.add(f.getName());
            }
            boolean constant = Modifier.isFinal(f.getModifiers()) && f.getType() == int.class;
            Due.holds("a static field is a constant: " + f, !Modifier.isStatic(f.getModifiers()) || constant);
        }
        Due.holds("the open fields: " + open, open.equals(Set.of("NONE", "UNKNOWN", "OUTSIDE", "NOT", "FULL")));
    }

    private static void methods() {
        Due.holds("public and final", StoneKeep.class.getModifiers() == (Modifier.PUBLIC | Modifier.FINAL));
        Constructor<?>[] constructors = StoneKeep.class.getDeclaredConstructors();
        Due.holds("one constructor", constructors.length == 1 && constructors[0].getParameterCount() == 0
            && constructors[0].getModifiers() == Modifier.PUBLIC);
        Set<String> names = new TreeSet<>();
        Set<String> found = new TreeSet<>();
        for (Method m : StoneKeep.class.getDeclaredMethods()) {
            if (!Modifier.isPrivate(m.getModifiers())) {
                Due.holds("public alone: " + m, m.getModifiers() == Modifier.PUBLIC);
                found.add(signature(m));
                names.add(m.getName());
            }
        }
        Due.holds("the face: " + found, found.equals(FACE));
        for (Class<?> c : allClasses()) {
            for (Method m : c.getDeclaredMethods()) {
                Due.holds("no other method has a public name: " + m,
                    c == StoneKeep.class && m.getModifiers() == Modifier.PUBLIC || !names.contains(m.getName()));
                Due.holds("seven parameters at most: " + m, m.getParameterCount() <= 7);
            }
        }
    }

    private static String signature(Method m) {
        StringBuilder parts = new StringBuilder();
        for (Class<?> c : m.getParameterTypes()) {
            parts.append(parts.length() == 0 ? "" : ",").append(c);
        }
        return m.getReturnType() + " " + m.getName() + "(" + parts + ")";
    }

    private static List<Class<?>> allClasses() {
        List<Class<?>> all = new java.util.ArrayList<>(Arrays.asList(StoneKeep.class.getDeclaredClasses()));
        all.add(StoneKeep.class);
        return all;
    }

    private static void nested() {
        Due.holds("twelve classes at most", allClasses().size() <= 12);
        for (Class<?> c : StoneKeep.class.getDeclaredClasses()) {
            Due.holds("private, static and final: " + c,
                c.getModifiers() == (Modifier.PRIVATE | Modifier.STATIC | Modifier.FINAL));
            Due.holds("twenty fields at most: " + c, c.getDeclaredFields().length <= 20);
        }
    }

    private static void text() throws IOException {
        List<String> lines = Files.readAllLines(Path.of("src/main/java/StoneKeep.java"));
        int number = 0;
        for (String line : lines) {
            number++;
            int comment = line.indexOf("//");
            boolean told = line.strip().startsWith("/**") || line.strip().startsWith("*");
            String code = told ? "" : comment >= 0 ? line.substring(0, comment) : line;
            Due.holds("line " + number + " has signs 32 to 126 alone", line.chars().allMatch(c -> c >= 32 && c <= 126));
            for (String barred : BARRED) {
                boolean word = Character.isLetter(barred.charAt(0)) && Character.isLetter(barred.charAt(barred.length() - 1));
                boolean has = word ? code.matches(".*\\b" + barred + "\\b.*") : code.contains(barred);
                Due.holds("line " + number + " is without " + barred, !has);
            }
            // all rows and objects are made with the object and used again: no call makes one
            boolean field = code.matches(" +private (static )?(final )?\\w+(\\[\\])? \\w+ = new .*;");
            Due.holds("line " + number + " makes nothing in a call", !code.matches(".*\\bnew\\b.*") || field);
            Due.holds("line " + number + " takes nothing but Arrays", !code.startsWith("import")
                || code.equals("import java.util.Arrays;"));
        }
    }
}
