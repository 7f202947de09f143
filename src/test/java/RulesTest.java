import java.lang.management.ManagementFactory;
import java.lang.reflect.Constructor;
import java.lang.reflect.Field;
import java.lang.reflect.Method;
import java.lang.reflect.Modifier;
import java.nio.file.Files;
import java.nio.file.Path;
import java.util.ArrayList;
import java.util.List;
import java.util.Set;
import java.util.TreeSet;
import java.util.regex.Matcher;
import java.util.regex.Pattern;

/**
 * The public face, and the rules of ../shared/LANGUAGE.md as far as a test can see them; not how
 * the class does its work, which is free.
 */
public final class RulesTest {
    private static final Due DUE = new Due("RulesTest");

    private static final Set<String> FACE = Set.of(
        "int read(int, int, int)", "int hand(int)", "int write(int, int, long, int)",
        "int fill(int, int, int, int)", "int truncate(int, int)", "int punch(int, int, int)",
        "int sync(int)", "int syncAll()", "int tick(int)", "int drop()", "int crash()",
        "boolean fail(int, boolean)", "boolean pin(int, int, boolean)", "int size(int)",
        "int page(int, int, int)", "int next(int, int, int)", "int tree(int, int)",
        "int listed(boolean, int)", "int disk(int, int)", "int run(int, int)", "int told(int)");

    private static final Set<String> CONSTANTS = Set.of("NONE", "BAD", "NO_FRAME", "NO_ROOM", "DEFECT");

    private static final Set<Class<?>> STATIC_TYPES = Set.of(
        int.class, long.class, boolean.class, char.class, String.class,
        int[].class, long[].class, char[].class, byte[].class);

    private static final Set<String> IMPORTS = Set.of(
        "java.util.ArrayList", "java.util.List", "java.util.Iterator", "java.util.Arrays");

    private static final String[] RULED_OUT = {
        "package", "throw", "throws", "try", "catch", "synchronized", "assert", "hashCode", "\\w+Exact",
        "Random", "Math\\.random", "Thread", "Runtime"};

    /** Some 600,000 objects and arrays, 7.3 million fields and elements, as dear as they can be. */
    private static final long ROOM = 600_000L * 16 + 7_300_000L * 8;

    public static void main(String[] args) throws Exception {
        theFace();
        theConstants();
        theClassesInside();
        theText(Path.of(args.length > 0 ? args[0] : "."));
        theRoom();
        DUE.end();
    }

    private static void theFace() {
        DUE.about("1. The face: the class of the document, public and final");
        DUE.is("public final", PageHold.class.getModifiers(), Modifier.PUBLIC | Modifier.FINAL);
        Set<String> found = new TreeSet<>();
        Set<String> names = new TreeSet<>();
        for (Method m : PageHold.class.getDeclaredMethods()) {
            if (Modifier.isPublic(m.getModifiers())) {
                found.add(signature(m));
                names.add(m.getName());
            }
        }
        DUE.is("the public methods are the document's", found.equals(FACE), true);
        DUE.about("No private method bears the name of a public one");
        for (Method m : PageHold.class.getDeclaredMethods()) {
            if (!m.isSynthetic()) {
                boolean isPrivate = Modifier.isPrivate(m.getModifiers());
                DUE.is("private, with its own name: " + m, isPrivate, !names.contains(m.getName()));
            }
        }
        Constructor<?>[] made = PageHold.class.getConstructors();
        DUE.is("one public constructor", made.length, 1);
        DUE.is("of two numbers", made.length == 1 && made[0].getParameterCount() == 2, true);
    }

    private static String signature(Method m) {
        List<String> types = new ArrayList<>();
        for (Class<?> type : m.getParameterTypes()) {
            types.add(type.getName());
        }
        return m.getReturnType().getName() + " " + m.getName() + "(" + String.join(", ", types) + ")";
    }

    private static void theConstants() {
        DUE.about("1. The face: .. constants of the document and no other .. member");
        DUE.is("NONE", PageHold.NONE, -1);
        DUE.is("BAD", PageHold.BAD, -2);
        DUE.is("NO_FRAME", PageHold.NO_FRAME, -3);
        DUE.is("NO_ROOM", PageHold.NO_ROOM, -4);
        DUE.is("DEFECT", PageHold.DEFECT, -5);
        for (Field f : PageHold.class.getDeclaredFields()) {
            boolean isPublic = Modifier.isPublic(f.getModifiers());
            DUE.is("public: " + f, isPublic, CONSTANTS.contains(f.getName()));
            DUE.is("or private: " + f, isPublic || Modifier.isPrivate(f.getModifiers()), true);
        }
    }

    private static void theClassesInside() {
        Class<?>[] inside = PageHold.class.getDeclaredClasses();
        DUE.about("11. .. the file has at most some twelve classes");
        DUE.is("classes inside", inside.length < 15, true);
        theMembers(PageHold.class);
        for (Class<?> c : inside) {
            DUE.about("1. .. the classes inside it, which are private or package-visible and static");
            DUE.is("static: " + c, Modifier.isStatic(c.getModifiers()), true);
            boolean isOpen = Modifier.isPublic(c.getModifiers()) || Modifier.isProtected(c.getModifiers());
            DUE.is("public or protected: " + c, isOpen, false);
            theMembers(c);
        }
    }

    private static void theMembers(Class<?> c) {
        int fields = 0;
        for (Field f : c.getDeclaredFields()) {
            if (!Modifier.isStatic(f.getModifiers())) {
                fields++;
            } else if (!f.isSynthetic()) {
                DUE.about("5. Static fields are final: constants ..");
                DUE.is("final: " + f, Modifier.isFinal(f.getModifiers()), true);
                DUE.is("a constant: " + f, STATIC_TYPES.contains(f.getType()) || c.isEnum(), true);
            }
        }
        DUE.about("11. A method takes at most seven parameters .. and a class some twenty fields");
        DUE.is("some twenty fields: " + c, fields < 25, true);
        for (Method m : c.getDeclaredMethods()) {
            DUE.is("at most seven parameters: " + m, m.getParameterCount() <= 7, true);
        }
    }

    private static void theText(Path root) throws Exception {
        String text = Files.readString(root.resolve("src/main/java/PageHold.java"));
        String code = text.replaceAll("(?s)/\\*.*?\\*/", " ").replaceAll("//[^\n]*", " ")
            .replaceAll("\"(\\\\.|[^\"\\\\\n])*\"", "text").replaceAll("'(\\\\.|[^'\\\\\n])+'", "0");
        DUE.about("6. No throw, try, catch, synchronized, assert ..; 13. No clock, no randomness ..");
        for (String word : RULED_OUT) {
            DUE.is("has " + word, has(code, "\\b" + word + "\\b"), false);
        }
        DUE.about("2. .. No inner class that isn't static, no local or anonymous class, no lambda");
        DUE.is("a method reference", code.contains("::"), false);
        DUE.is("a class without a name", has(code, "\\bnew [\\w.<>]+\\([^;{}]*\\)\\s*\\{"), false);
        // Not each arrow is one: it may stand behind a case, or be a -- ahead of a >.
        String others = code.replace("-->", " ").replaceAll("\\b(case|default)\\b[^;{}]*?->", " ");
        DUE.is("a lambda", others.contains("->"), false);
        DUE.about("5. .. no static initialiser block");
        DUE.is("a static block", has(code, "\\bstatic\\s*\\{"), false);
        theImports(code);
        theLengths(code);
    }

    private static boolean has(String code, String pattern) {
        return Pattern.compile(pattern).matcher(code).find();
    }

    private static void theImports(String code) {
        DUE.about("4. The library: only what stands here");
        Matcher imports = Pattern.compile("\\bimport\\s+(static\\s+)?([\\w.*]+)\\s*;").matcher(code);
        while (imports.find()) {
            DUE.is("import " + imports.group(2), IMPORTS.contains(imports.group(2)), true);
        }
        Matcher system = Pattern.compile("\\bSystem\\s*\\.\\s*(\\w+)").matcher(code);
        while (system.find()) {
            DUE.is("System." + system.group(1), system.group(1).equals("arraycopy"), true);
        }
        String others = code.replaceAll("\\bimport\\b[^;]*;", " ");
        DUE.is("a package by its name", has(others, "\\bjavax?\\s*\\.\\s*\\w"), false);
    }

    /** A method's last line is the first one that closes at its own depth. */
    private static void theLengths(String code) {
        DUE.about("11. .. Methods stay short (some sixty lines)");
        String opening = " {4,8}[\\w\\[\\]<> ]+\\([^;]*\\) \\{";
        String[] lines = code.split("\n");
        for (int i = 0; i < lines.length; i++) {
            if (lines[i].matches(opening) && !lines[i].matches(" *(if|for|while|switch|return)\\b.*")) {
                String close = lines[i].replaceAll("\\S.*", "") + "}";
                int length = 1;
                while (i + length < lines.length && !lines[i + length].equals(close)) {
                    length++;
                }
                DUE.is("lines of" + lines[i], length < 70, true);
            }
        }
    }

    /** Calls of the dearest kinds, as many as an object may have. */
    private static void theRoom() {
        DUE.about("12. .. What a run makes is counted .. keep it small");
        long before = bytesMade();
        PageHold x = new PageHold(64, 512);
        for (int i = 0; i < 128; i++) {
            int at = i * 128 % 15360;
            x.fill(i % 12, at, 1024, i);
            x.read(i % 12, at, 1024);
            x.tick(6);
            x.syncAll();
        }
        DUE.is("the room is kept to", bytesMade() - before < ROOM, true);
    }

    /** 0 on a machine that doesn't count them. */
    private static long bytesMade() {
        return ManagementFactory.getThreadMXBean() instanceof com.sun.management.ThreadMXBean counted
            ? counted.getThreadAllocatedBytes(Thread.currentThread().getId()) : 0;
    }
}
