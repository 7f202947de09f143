import java.lang.reflect.Constructor;
import java.lang.reflect.Field;
import java.lang.reflect.Method;
import java.lang.reflect.Modifier;
import java.nio.file.Files;
import java.nio.file.Path;
import java.util.ArrayList;
import java.util.List;
import java.util.Set;
import java.util.TreeSet;
import java.util.regex.Pattern;

/** The face of the class, and what LANGUAGE.md rules out as far as a test can see it. */
public final class RulesTest {
    private static final Due DUE = new Due("RulesTest");

    private static final Set<String> FACE = Set.of(
        "int read(int, int, int)", "int hand(int)", "int write(int, int, long, int)",
        "int fill(int, int, int, int)", "int truncate(int, int)", "int punch(int, int, int)",
        "int sync(int)", "int syncAll()", "int tick(int)", "int drop()", "int crash()",
        "boolean fail(int, boolean)", "boolean pin(int, int, boolean)", "int size(int)",
        "int page(int, int, int)", "int next(int, int, int)", "int tree(int, int)",
        "int listed(boolean, int)", "int disk(int, int)", "int run(int, int)", "int told(int)");

    private static final String[] RULED_OUT = {
        "throw", "try", "catch", "synchronized", "assert", "package", "->", "::", "addExact", "System.out",
        "Random", "Thread", "Object", "instanceof", "null", "\""};

    public static void main(String[] args) throws Exception {
        theFace();
        theConstants();
        theClassesInside();
        theWords(Path.of(args.length > 0 ? args[0] : "."));
        DUE.end();
    }

    private static void theFace() {
        DUE.is("public final", PageHold.class.getModifiers(), Modifier.PUBLIC | Modifier.FINAL);
        Set<String> found = new TreeSet<>();
        Set<String> names = new TreeSet<>();
        for (Method m : PageHold.class.getDeclaredMethods()) {
            if (Modifier.isPublic(m.getModifiers())) {
                found.add(signature(m));
                names.add(m.getName());
            }
        }
        DUE.is("the public methods are the document's", found.equals(FACE), true);
        for (Method m : PageHold.class.getDeclaredMethods()) {
            boolean isPrivate = Modifier.isPrivate(m.getModifiers());
            boolean named = names.contains(m.getName());
            DUE.is("private, with its own name: " + m.getName(), isPrivate, !named);
        }
        Constructor<?>[] made = PageHold.class.getDeclaredConstructors();
        DUE.is("one constructor", made.length, 1);
        DUE.is("it is public", made[0].getModifiers(), Modifier.PUBLIC);
        DUE.is("of two numbers", made[0].getParameterCount(), 2);
    }

    private static String signature(Method m) {
        List<String> types = new ArrayList<>();
        for (Class<?> type : m.getParameterTypes()) {
            types.add(type.getName());
        }
        return m.getReturnType().getName() + " " + m.getName() + "(" + String.join(", ", types) + ")";
    }

    private static void theConstants() {
        DUE.is("NONE", PageHold.NONE, -1);
        DUE.is("BAD", PageHold.BAD, -2);
        DUE.is("NO_FRAME", PageHold.NO_FRAME, -3);
        DUE.is("NO_ROOM", PageHold.NO_ROOM, -4);
        DUE.is("DEFECT", PageHold.DEFECT, -5);
        int open = 0;
        for (Field f : PageHold.class.getDeclaredFields()) {
            boolean isPrivate = Modifier.isPrivate(f.getModifiers());
            open += isPrivate ? 0 : 1;
            boolean isStatic = Modifier.isStatic(f.getModifiers());
            DUE.is("static is final: " + f, !isStatic || Modifier.isFinal(f.getModifiers()), true);
        }
        DUE.is("five constants are public", open, 5);
    }

    private static void theClassesInside() {
        Class<?>[] inside = PageHold.class.getDeclaredClasses();
        DUE.is("at most twelve", inside.length <= 12, true);
        for (Class<?> c : inside) {
            DUE.is("static: " + c, Modifier.isStatic(c.getModifiers()), true);
            DUE.is("not public: " + c, Modifier.isPublic(c.getModifiers()), false);
            DUE.is("some twenty fields: " + c, c.getDeclaredFields().length <= 20, true);
            theMethods(c);
        }
        theMethods(PageHold.class);
    }

    private static void theMethods(Class<?> c) {
        for (Method m : c.getDeclaredMethods()) {
            DUE.is("at most seven parameters: " + m, m.getParameterCount() <= 7, true);
            for (Class<?> type : m.getParameterTypes()) {
                boolean isNumbers = type.isPrimitive() || type == byte[].class;
                DUE.is("numbers and rows of bytes alone: " + m, isNumbers, true);
            }
        }
    }

    /** A method's last line is the first one that closes at its own depth. */
    private static void theLengths(String code) {
        String opening = " {4,8}[\\w\\[\\] ]+\\([^;]*\\) \\{";
        String[] lines = code.split("\n");
        int methods = 0;
        for (int i = 0; i < lines.length; i++) {
            if (lines[i].matches(opening) && !lines[i].matches(" *(if|for|while|switch|return)\\b.*")) {
                methods++;
                String close = lines[i].replaceAll("\\S.*", "") + "}";
                int length = 1;
                while (i + length < lines.length && !lines[i + length].equals(close)) {
                    length++;
                }
                DUE.is("some sixty lines:" + lines[i], length < 60, true);
            }
        }
        DUE.is("methods are found", methods > 50, true);
    }

    private static void theWords(Path root) throws Exception {
        String text = Files.readString(root.resolve("src/main/java/PageHold.java"));
        String code = text.replaceAll("(?s)/\\*.*?\\*/", " ").replaceAll("//[^\n]*", " ");
        for (String word : RULED_OUT) {
            boolean isName = Character.isLetter(word.charAt(0));
            String pattern = Pattern.quote(word);
            pattern = isName ? "\\b" + pattern + "\\b" : pattern;
            DUE.is("without " + word, Pattern.compile(pattern).matcher(code).find(), false);
        }
        theLengths(code);
        DUE.is("no block that is static", code.contains("static {"), false);
        int made = 0;
        int elsewhere = 0;
        for (String line : code.split("\n")) {
            boolean makes = line.contains("new ");
            made += makes ? 1 : 0;
            // Rows are made with the object alone: fields of it, and no call makes any.
            boolean isField = line.matches(" *(this\\.)?([\\w\\[\\]]+ )*\\w+ = new .*");
            elsewhere += makes && !isField ? 1 : 0;
            boolean isOther = line.startsWith("import ") && !line.equals("import java.util.Arrays;");
            elsewhere += isOther ? 1 : 0;
        }
        DUE.is("some are made", made > 0, true);
        DUE.is("made or had from elsewhere", elsewhere, 0);
    }
}
