import java.io.IOException;
import java.lang.reflect.Constructor;
import java.lang.reflect.Field;
import java.lang.reflect.Method;
import java.lang.reflect.Modifier;
import java.nio.charset.StandardCharsets;
import java.nio.file.Files;
import java.nio.file.Path;
import java.util.Arrays;
import java.util.TreeSet;

/** The face, member for member, and those rules of LANGUAGE.md that can be seen from outside or in the text. Run from the project's folder. */
public final class LanguageTest {
    private static final Path SOURCE = Path.of("src/main/java/BlameChains.java");
    private static final String[] FACE = {
        "append(int) IllegalArgumentException IllegalStateException",
        "clearText()",
        "errorPosition()",
        "load() IllegalStateException",
        "about(int) IllegalArgumentException",
        "part(int,int) IndexOutOfBoundsException IllegalArgumentException",
        "contract(int,int,int) IndexOutOfBoundsException IllegalArgumentException",
        "blame(int,int) IllegalArgumentException",
        "add(int,int) IllegalArgumentException IllegalStateException",
        "chain(int,int,int) IndexOutOfBoundsException IllegalArgumentException",
        "net(int,int) IndexOutOfBoundsException IllegalArgumentException",
        "own(int,int,int,int,int) IndexOutOfBoundsException IllegalArgumentException",
        "link(int,int,int,int,int,int) IndexOutOfBoundsException IllegalArgumentException",
        "drop(int,int) IndexOutOfBoundsException",
        "call(int,int) IndexOutOfBoundsException IllegalArgumentException",
        "undo() IllegalStateException",
        "would(int,int,int) IndexOutOfBoundsException IllegalArgumentException",
        "stands(int,int,int,int) IndexOutOfBoundsException",
        "holes()",
        "firstBad(int,int,int) IndexOutOfBoundsException IllegalArgumentException",
        "mostBlamed(int,int,int) IndexOutOfBoundsException IllegalArgumentException",
        "reach(int,int,boolean) IndexOutOfBoundsException IllegalArgumentException",
        "runScript(int,long) IllegalArgumentException",
        "simulate(long,int) IllegalArgumentException",
        "save(int) IndexOutOfBoundsException",
        "restore(int) IndexOutOfBoundsException IllegalStateException",
    };
    private static final String[] NOT_ALLOWED = {"->", "::", "catch", "finally", "synchronized", "assert", "package ",
        "native", "Exact(", "System.out", "\"\"\"", "extends Exception", "Thread", "Random", "currentTimeMillis", "nanoTime"};

    private LanguageTest() {
    }

    public static void main(String[] args) throws IOException {
        face();
        inside();
        text();
        Checks.end("LanguageTest");
    }

    private static void face() {
        Class<?> type = BlameChains.class;
        TreeSet<String> found = new TreeSet<>();
        for (Method method : type.getDeclaredMethods()) {
            if (!Modifier.isPrivate(method.getModifiers()) && !method.isSynthetic()) {
                found.add(told(method));
            }
        }
        TreeSet<String> due = new TreeSet<>(Arrays.asList(FACE));
        if (!found.equals(due)) {
            Checks.fail("the face is " + found + ", due is " + due);
        }
        Checks.due("public and final", Modifier.PUBLIC | Modifier.FINAL, type.getModifiers());
        Constructor<?>[] constructors = type.getDeclaredConstructors();
        Checks.due("constructors", 1, constructors.length);
        Checks.due("a public one", Modifier.PUBLIC, constructors[0].getModifiers());
        for (Field field : type.getDeclaredFields()) {
            boolean none = field.getName().equals("NONE");
            int due1 = none ? Modifier.PUBLIC : Modifier.PRIVATE;
            Checks.due("field " + field.getName(), due1, field.getModifiers() & (Modifier.PUBLIC | Modifier.PRIVATE | Modifier.PROTECTED));
        }
    }

    private static String told(Method method) {
        StringBuilder told = new StringBuilder(method.getName()).append('(');
        for (Class<?> parameter : method.getParameterTypes()) {
            told.append(told.charAt(told.length() - 1) == '(' ? "" : ",").append(parameter.getName());
        }
        told.append(')');
        for (Class<?> exception : method.getExceptionTypes()) {
            told.append(' ').append(exception.getSimpleName());
        }
        return Modifier.isPublic(method.getModifiers()) && method.getReturnType() == int.class ? told.toString() : "not public: " + told;
    }

    private static void inside() {
        TreeSet<String> open = new TreeSet<>();
        for (String method : FACE) {
            open.add(method.substring(0, method.indexOf('(')));
        }
        checkMembers(BlameChains.class, open);
        Class<?>[] classes = BlameChains.class.getDeclaredClasses();
        if (classes.length > 11) {
            Checks.fail("too many classes");
        }
        for (Class<?> type : classes) {
            if (!Modifier.isStatic(type.getModifiers()) || Modifier.isPublic(type.getModifiers())) {
                Checks.fail(type + " is public or not static");
            }
            checkMembers(type, open);
        }
    }

    private static void checkMembers(Class<?> type, TreeSet<String> open) {
        int fields = 0;
        for (Field field : type.getDeclaredFields()) {
            if (Modifier.isStatic(field.getModifiers())) {
                Checks.due(type + " " + field.getName() + " is final", Modifier.FINAL, field.getModifiers() & Modifier.FINAL);
            } else {
                fields++;
            }
        }
        if (fields > 20) {
            Checks.fail(type + " has too many fields");
        }
        for (Method method : type.getDeclaredMethods()) {
            if (method.getParameterCount() > 7) {
                Checks.fail(method + " takes too many parameters");
            }
            if (open.contains(method.getName()) && !(type == BlameChains.class && Modifier.isPublic(method.getModifiers()))) {
                Checks.fail(method + " has the name of a public one");
            }
        }
    }

    private static void text() throws IOException {
        String source = Files.readString(SOURCE, StandardCharsets.ISO_8859_1);
        for (int i = 0; i < source.length(); i++) {
            if (source.charAt(i) > 126) {
                Checks.fail("a sign beyond 126 at " + i);
            }
        }
        for (String part : NOT_ALLOWED) {
            if (source.contains(part)) {
                Checks.fail("the source has " + part);
            }
        }
        int opened = 0;
        String[] lines = source.split("\n");
        for (int i = 0; i < lines.length; i++) {
            if (lines[i].startsWith("import ") && !lines[i].equals("import java.util.Arrays;")) {
                Checks.fail(lines[i]);
            }
            if (lines[i].matches(" {4}(?: {4})?(?!static final|private static final class)[a-zA-Z].*\\{")) {
                opened = i;
            }
            if (lines[i].matches(" {4}(?: {4})?\\}") && i - opened > 60 && !lines[opened].contains(" class ")) {
                Checks.fail("a long method at line " + (opened + 1));
            }
        }
    }
}
