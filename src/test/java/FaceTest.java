import java.io.IOException;
import java.lang.reflect.Constructor;
import java.lang.reflect.Field;
import java.lang.reflect.Method;
import java.lang.reflect.Modifier;
import java.nio.charset.StandardCharsets;
import java.nio.file.Files;
import java.nio.file.Path;
import java.util.ArrayList;
import java.util.HashSet;
import java.util.List;
import java.util.Set;
import java.util.TreeSet;
import java.util.regex.Matcher;
import java.util.regex.Pattern;

/** "The public face" of the document, and what LANGUAGE.md's rules 1 and 5 ask of it, promises 1 to 39. */
public final class FaceTest {
    private static final Class<?> FACE = TakenUpByThePieces.class;
    private static final Path DOCUMENT = Path.of("..", "shared", "DOC.md");
    private static final Path SOURCE = Path.of("src", "main", "java", "TakenUpByThePieces.java");
    private static int passed = 0;
    private static int failed = 0;

    private static void holds(String what, boolean so) {
        if (so) {
            passed++;
        } else {
            failed++;
            System.out.println("not so: " + what);
        }
    }

    // ---- the calls

    /** A line of the document's face as "long element(int, int) throws A, B". */
    private static String withoutNames(String line) {
        String call = line.replace("public ", "").replace(";", "").trim();
        return call.replaceAll("(int|long) \\w+([,)])", "$1$2");
    }

    private static String told(Method m) {
        return m.getReturnType().getName() + " " + told(m.getName(), m.getParameterTypes(), m.getExceptionTypes());
    }

    private static String told(String name, Class<?>[] parameters, Class<?>[] exceptions) {
        StringBuilder all = new StringBuilder(name).append('(');
        for (int i = 0; i < parameters.length; i++) {
            all.append(i == 0 ? "" : ", ").append(parameters[i].getSimpleName());
        }
        all.append(')');
        for (int i = 0; i < exceptions.length; i++) {
            all.append(i == 0 ? " throws " : ", ").append(exceptions[i].getSimpleName());
        }
        return all.toString();
    }

    private static TreeSet<String> dueCalls(String document) {
        TreeSet<String> due = new TreeSet<>();
        int begin = document.indexOf("public final class TakenUpByThePieces {");
        int end = document.indexOf('}', begin);
        for (String line : document.substring(begin, end).split("\n")) {
            if (line.contains("(")) {
                due.add(withoutNames(line));
            }
        }
        return due;
    }

    private static TreeSet<String> calls() {
        TreeSet<String> all = new TreeSet<>();
        for (Method m : FACE.getDeclaredMethods()) {
            if (Modifier.isPublic(m.getModifiers())) {
                all.add(told(m));
                holds(m.getName() + " is of an object", !Modifier.isStatic(m.getModifiers()));
            } else {
                holds(m.getName() + " is private", Modifier.isPrivate(m.getModifiers()) || m.isSynthetic());
            }
        }
        for (Constructor<?> c : FACE.getDeclaredConstructors()) {
            holds("the constructor is public", Modifier.isPublic(c.getModifiers()));
            all.add(told(FACE.getSimpleName(), c.getParameterTypes(), c.getExceptionTypes()));
        }
        return all;
    }

    // ---- what is inside

    private static void inside() {
        int modifiers = FACE.getModifiers();
        holds("the class is public and final", Modifier.isPublic(modifiers) && Modifier.isFinal(modifiers));
        fieldsOf(FACE, true);
        Set<String> names = new HashSet<>();
        for (Method m : FACE.getDeclaredMethods()) {
            if (Modifier.isPublic(m.getModifiers())) {
                names.add(m.getName());
            }
        }
        for (Method m : FACE.getDeclaredMethods()) {
            holds(m.getName() + " has a name of its own",
                    Modifier.isPublic(m.getModifiers()) || !names.contains(m.getName()));
        }
        for (Class<?> inner : FACE.getDeclaredClasses()) {
            int of = inner.getModifiers();
            holds(inner.getName() + " is static and not public",
                    Modifier.isStatic(of) && !Modifier.isPublic(of) && !Modifier.isProtected(of));
            fieldsOf(inner, false);
        }
    }

    private static void fieldsOf(Class<?> c, boolean isFace) {
        for (Field f : c.getDeclaredFields()) {
            int of = f.getModifiers();
            holds(c.getName() + "." + f.getName() + " is private", !isFace || Modifier.isPrivate(of));
            holds(c.getName() + "." + f.getName() + " does not change, if it is static",
                    !Modifier.isStatic(of) || Modifier.isFinal(of));
        }
    }

    /** "Ahead of the calls .. the interface says: ---- ..": the calls in the source stand behind such lines. */
    private static void heads(String document, String source) {
        Matcher m = Pattern.compile("Ahead of the calls (.*?) the interface says: (---- .*?)\\.\n").matcher(document);
        int heads = 0;
        int from = 0;
        while (m.find()) {
            heads++;
            int at = source.indexOf("    // " + m.group(2) + "\n", from);
            holds(m.group(2), at >= 0);
            from = Math.max(from, at);
            int end = source.indexOf("    // ----", from + 1);
            List<String> due = new ArrayList<>();
            for (String call : m.group(1).split(", ")) {
                due.add(call.replace("`", ""));
            }
            holds(m.group(2) + " " + due, due.equals(publicNames(source.substring(from, end))));
        }
        holds("seven lines stand ahead of calls", heads == 7);
    }

    private static List<String> publicNames(String part) {
        List<String> names = new ArrayList<>();
        Matcher m = Pattern.compile("\n    public (?:int|long) (\\w+)\\(").matcher(part);
        while (m.find()) {
            names.add(m.group(1));
        }
        return names;
    }

    public static void main(String[] args) throws IOException {
        String document = Files.readString(DOCUMENT, StandardCharsets.UTF_8);
        TreeSet<String> due = dueCalls(document);
        TreeSet<String> calls = calls();
        holds("the face has 39 members: " + due, due.size() == 39);
        holds("the calls are " + due + ", not " + calls, due.equals(calls));
        inside();
        heads(document, Files.readString(SOURCE, StandardCharsets.UTF_8));
        System.out.println(passed + " checks hold, " + failed + " do not");
        if (failed != 0) {
            System.exit(1);
        }
    }
}
