import java.io.ByteArrayOutputStream;
import java.io.IOException;
import java.io.PrintStream;
import java.net.URL;
import java.net.URLClassLoader;
import java.nio.charset.StandardCharsets;
import java.nio.file.Files;
import java.nio.file.Path;
import javax.tools.JavaCompiler;
import javax.tools.ToolProvider;

/** What README.md tells: its program prints what stands below it, and its refusals are the document's. */
public final class ReadmeTest {
    private static final Path README = Path.of("README.md");
    private static final Path DOCUMENT = Path.of("..", "shared", "DOC.md");
    private static int passed = 0;
    private static int failed = 0;

    private static void holds(String what, boolean so) {
        if (so) {
            passed++;
        } else {
            failed++;
            System.out.println("not so: " + what);
        }
    }

    /** What stands between the first line "```kind" and the line "```" behind it. */
    private static String block(String text, String kind) {
        String head = "```" + kind + "\n";
        int begin = text.indexOf(head) + head.length();
        return text.substring(begin, text.indexOf("```\n", begin));
    }

    private static String printedBy(String program) throws ReflectiveOperationException, IOException {
        Path folder = Files.createTempDirectory("garden");
        Path source = folder.resolve("Garden.java");
        Files.writeString(source, program, StandardCharsets.UTF_8);
        JavaCompiler compiler = ToolProvider.getSystemJavaCompiler();
        String classes = System.getProperty("java.class.path");
        int errors = compiler.run(null, null, null, "-cp", classes, "-d", folder.toString(), source.toString());
        holds("the program of README.md compiles", errors == 0);
        String printed = errors == 0 ? runIn(folder) : "";
        Files.deleteIfExists(folder.resolve("Garden.class"));
        Files.delete(source);
        Files.delete(folder);
        return printed;
    }

    private static String runIn(Path folder) throws ReflectiveOperationException, IOException {
        ByteArrayOutputStream printed = new ByteArrayOutputStream();
        PrintStream before = System.out;
        URL[] places = {folder.toUri().toURL()};
        try (URLClassLoader loader = new URLClassLoader(places, ReadmeTest.class.getClassLoader())) {
            System.setOut(new PrintStream(printed, true, StandardCharsets.UTF_8));
            loader.loadClass("Garden").getMethod("main", String[].class).invoke(null, (Object) new String[0]);
        } finally {
            System.setOut(before);
        }
        return printed.toString(StandardCharsets.UTF_8).replace("\r\n", "\n");
    }

    /** Each refusal of the document has a line in the table, with the document's words, or nearly these. */
    private static void refusals(String readme, String document) {
        String[][] due = {
            {"-1", "no such one, one twice, a number out of its range"},
            {"-2", "there is no room"},
            {"-3", "it is not as it must be"},
            {"-4", "none"},
            {"-11", "nothing is held where something is wanted"},
            {"-12", "it is of another kind"},
            {"-13", "a place that isn't there (a number or a size that isn't as told, too)"},
            {"-14", "a size below 0"},
            {"-15", "a FAILURE that is none"},
        };
        for (String[] refusal : due) {
            holds("the document has " + refusal[0], document.contains(refusal[0] + " " + refusal[1]));
            holds("README.md has " + refusal[0], readme.contains("\n| " + refusal[0] + " | "));
        }
        holds("the document tells of longs", document.contains("(-1 is told as 1000000001)"));
        holds("README.md tells of longs", readme.contains("\n| 1000000001 | "));
    }

    /** The paths that README.md names are there. */
    private static void paths(String readme) {
        String[] named = {
            "../shared/DOC.md", "../shared/LANGUAGE.md", "../shared/tests", "NOTES.md", ".ci/run", "src/test/help",
            "src/main/java/TakenUpByThePieces.java", "src/test/java/PromisesTest.java", "src/test/java/FaceTest.java",
            "src/test/java/GameSentencesTest.java", "src/test/java/ModelTest.java", "src/test/java/ReadmeTest.java",
        };
        for (String path : named) {
            holds("README.md names " + path, readme.contains(path));
            holds(path + " is there", Files.exists(Path.of(path)));
        }
    }

    public static void main(String[] args) throws ReflectiveOperationException, IOException {
        String readme = Files.readString(README, StandardCharsets.UTF_8);
        String document = Files.readString(DOCUMENT, StandardCharsets.UTF_8);
        String printed = printedBy(block(readme, "java"));
        String due = block(readme, "text");
        holds("the program prints\n" + due + "not\n" + printed, due.equals(printed));
        refusals(readme, document);
        paths(readme);
        System.out.println(passed + " checks hold, " + failed + " do not");
        if (failed != 0) {
            System.exit(1);
        }
    }
}
