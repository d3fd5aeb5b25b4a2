import java.io.IOException;
import java.lang.reflect.Constructor;
import java.lang.reflect.Field;
import java.lang.reflect.Method;
import java.lang.reflect.Modifier;
import java.nio.file.Files;
import java.nio.file.Path;
import java.util.Arrays;
import java.util.Set;
import java.util.TreeSet;

/** The public face to the letter, and those rules of LANGUAGE.md that the source's words show. */
public final class FaceTest {
    private static final String[] FACE = {
        "void reset int int int throws IllegalArgumentException",
        "int addFlow int int int int throws IllegalArgumentException IllegalStateException",
        "int cut int int throws IllegalArgumentException IllegalStateException",
        "int restore int int throws IllegalArgumentException IllegalStateException",
        "int pass int throws IllegalArgumentException IllegalStateException",
        "int clock throws",
        "int flows throws",
        "int sent int throws IndexOutOfBoundsException",
        "int delivered int throws IndexOutOfBoundsException",
        "int lost int throws IndexOutOfBoundsException",
        "int outOfOrder int throws IndexOutOfBoundsException",
        "int doneIn int throws IndexOutOfBoundsException",
        "int flowlets int throws IndexOutOfBoundsException",
        "int spineOf int throws IndexOutOfBoundsException",
        "int upQueue int throws IllegalArgumentException",
        "int downQueue int throws IllegalArgumentException",
        "int northQueue int int throws IllegalArgumentException",
        "int southQueue int int throws IllegalArgumentException",
        "int upCredits int throws IllegalArgumentException",
        "int northCredits int int throws IllegalArgumentException",
        "int returning throws",
        "int queued throws",
        "int open int throws IllegalArgumentException",
        "int usable int int throws IllegalArgumentException",
        "int leastTicks throws",
    };

    private static final Set<String> LIBRARY = Set.of("java.util.ArrayList", "java.util.List", "java.util.Arrays",
            "java.util.Iterator", "java.util.NoSuchElementException");

    public static void main(String[] args) throws IOException {
        Class<?> c = Fabricsim.class;
        Check.due("public and final", c.getModifiers() & (Modifier.PUBLIC | Modifier.FINAL),
                Modifier.PUBLIC | Modifier.FINAL);
        methods(c);
        constructor(c);
        constants(c);
        for (Class<?> inside : c.getDeclaredClasses()) {
            int m = inside.getModifiers();
            Check.due(inside.getSimpleName() + " is hidden", Modifier.isPublic(m) || Modifier.isProtected(m) ? 1 : 0, 0);
            Check.due(inside.getSimpleName() + " has some twenty fields",
                    inside.getDeclaredFields().length <= 20 ? 1 : 0, 1);
            for (Method method : inside.getDeclaredMethods()) {
                String name = method.getName();
                boolean open = Arrays.stream(FACE).anyMatch(line -> line.split(" ")[1].equals(name));
                Check.due("a public method of the name of " + inside.getSimpleName() + "." + name, open ? 1 : 0, 0);
                Check.due(name + " takes at most seven", method.getParameterCount() <= 7 ? 1 : 0, 1);
            }
        }
        Check.due("some twelve classes", c.getDeclaredClasses().length <= 12 ? 1 : 0, 1);
        String source = Files.readString(Path.of("src/main/java/Fabricsim.java"));
        words(source);
        theDocumentsFace(source.replaceAll("\\s+", " "));
        theDocumentsParts(source.replaceAll("\\s+", " "));
        Check.finish("FaceTest");
    }

    /** Each line of the document's public face stands in the source, the names of arguments included, in its order. */
    private static void theDocumentsFace(String source) throws IOException {
        String document = Files.readString(Path.of("../shared/DOC.md"));
        String face = document.split("```java\n")[1].split("```")[0];
        int behind = 0;
        int members = 0;
        for (String line : face.split("\n")) {
            if (line.contains("public ")) {
                String want = line.trim().endsWith(");") || line.contains(" throws ")
                        ? line.trim().replace(";", " {") : line.trim();
                int at = source.indexOf(want, behind);
                Check.due(want + ", in its place", at >= 0 ? 1 : 0, 1);
                behind = Math.max(at, behind);
                members++;
            }
        }
        Check.due("the class, the constant, the constructor and the methods", members, 3 + FACE.length);
    }

    /** "Ahead of the calls .. the interface says" what the part of the class is. */
    private static void theDocumentsParts(String source) {
        String[][] parts = {
            {"// ---- setting up ", "reset", "addFlow", "cut", "restore", "pass", "clock"},
            {"// ---- flows ", "flows", "sent", "delivered", "lost", "outOfOrder", "doneIn", "flowlets", "spineOf"},
            {"// ---- links ", "upQueue", "downQueue", "northQueue", "southQueue", "upCredits", "northCredits",
                "returning", "queued", "open", "usable", "leastTicks"},
        };
        int calls = 0;
        for (int i = 0; i < parts.length; i++) {
            int from = source.indexOf(parts[i][0]);
            int to = i + 1 < parts.length ? source.indexOf(parts[i + 1][0]) : source.length();
            Check.due("'" + parts[i][0] + "' is there", from >= 0 && to > from ? 1 : 0, 1);
            for (int k = 1; k < parts[i].length; k++) {
                int at = Math.max(source.indexOf("public int " + parts[i][k] + "("),
                        source.indexOf("public void " + parts[i][k] + "("));
                Check.due(parts[i][k] + " is behind '" + parts[i][0] + "'", from < at && at < to ? 1 : 0, 1);
                calls++;
            }
        }
        Check.due("all calls of the face", calls, FACE.length);
    }

    private static void methods(Class<?> c) {
        TreeSet<String> open = new TreeSet<>();
        TreeSet<String> names = new TreeSet<>();
        for (Method m : c.getDeclaredMethods()) {
            if (!Modifier.isPrivate(m.getModifiers())) {
                StringBuilder text = new StringBuilder(m.getReturnType().getSimpleName() + " " + m.getName());
                for (Class<?> p : m.getParameterTypes()) {
                    text.append(' ').append(p.getSimpleName());
                }
                text.append(" throws");
                for (Class<?> e : m.getExceptionTypes()) {
                    text.append(' ').append(e.getSimpleName());
                }
                open.add(text.toString());
                names.add(m.getName());
            }
        }
        Check.due("the face", open.toString(), new TreeSet<>(Arrays.asList(FACE)).toString());
        for (Method m : c.getDeclaredMethods()) {
            if (Modifier.isPrivate(m.getModifiers())) {
                Check.due("a public method of the name of the private " + m.getName(),
                        names.contains(m.getName()) ? 1 : 0, 0);
                Check.due(m.getName() + " is a lambda", m.getName().startsWith("lambda$") ? 1 : 0, 0);
            }
            Check.due(m.getName() + " takes at most seven", m.getParameterCount() <= 7 ? 1 : 0, 1);
        }
    }

    private static void constructor(Class<?> c) {
        Constructor<?>[] all = c.getDeclaredConstructors();
        Check.due("constructors", all.length, 1);
        Check.due("its parameters", all[0].getParameterCount(), 0);
        Check.due("it is public", Modifier.isPublic(all[0].getModifiers()) ? 1 : 0, 1);
    }

    private static void constants(Class<?> c) {
        StringBuilder open = new StringBuilder();
        int own = 0;
        for (Field f : c.getDeclaredFields()) {
            if (!Modifier.isPrivate(f.getModifiers())) {
                open.append(Modifier.toString(f.getModifiers())).append(' ').append(f.getType()).append(' ');
                open.append(f.getName());
            }
            if (Modifier.isStatic(f.getModifiers())) {
                Check.due(f.getName() + " is final", Modifier.isFinal(f.getModifiers()) ? 1 : 0, 1);
            } else {
                own++;
            }
        }
        Check.due("the constants", open.toString(), "public static final int NONE");
        Check.due("NONE", Fabricsim.NONE, -1);
        Check.due("some twenty fields", own <= 20 ? 1 : 0, 1);
    }

    private static void words(String source) {
        String[] barred = {"::", "finally", "synchronized", "assert ", "static {", "while (true)", "for (;;)", "Exact(",
            "Random", "Thread", "getMessage", "Math.sqrt", "Math.pow"};
        for (String word : barred) {
            Check.due("places of '" + word + "'", source.indexOf(word), -1);
        }
        Check.due("signs beyond 127", source.chars().filter(s -> s > 127).count(), 0);
        for (String line : source.split("\n")) {
            Check.due("a package line", line.startsWith("package ") ? 1 : 0, 0);
            if (line.startsWith("import ")) {
                String name = line.substring(7).replace(";", "").trim();
                Check.due(line + " is of the library", LIBRARY.contains(name) ? 1 : 0, 1);
            }
        }
        Check.due("calls of System beside arraycopy", places(source, "System.") - places(source, "System.arraycopy"), 0);
    }

    private static int places(String source, String word) {
        return source.split(java.util.regex.Pattern.quote(word), -1).length - 1;
    }
}
