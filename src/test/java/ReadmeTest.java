import java.io.File;
import java.io.IOException;
import java.net.URL;
import java.net.URLClassLoader;
import java.nio.file.Files;
import java.nio.file.Path;
import java.util.ArrayList;
import java.util.Comparator;
import java.util.List;
import java.util.Set;
import java.util.TreeSet;
import java.util.regex.Matcher;
import java.util.regex.Pattern;
import java.util.stream.Stream;
import javax.tools.ToolProvider;

/** The pieces of Java in README.md compile, one behind the other, and answer what stands behind them. */
public final class ReadmeTest {
    private static final Path README = Path.of("README.md");
    private static final String DUE = " // ";
    private static final Pattern DECLARED = Pattern.compile("(int|String|boolean|long) (\\w+) = (.*)");
    private static final Pattern LINK = Pattern.compile("\\]\\(#([^)]*)\\)");

    private static int checked;
    private static int wrong;

    private ReadmeTest() {
    }

    public static void main(String[] args) throws Exception {
        List<String> lines = Files.readAllLines(README);
        needSections(lines);
        Path folder = Files.createTempDirectory("readme");
        try {
            runPieces(pieces(lines), folder);
        } finally {
            delete(folder);
        }
        if (wrong > 0 || checked == 0) {
            System.out.println(wrong + " wrong, " + checked + " looked at");
            System.exit(1);
        }
        System.out.println(checked + " answers of README.md are as it tells them");
    }

    /** Called by the program that is made of the pieces. */
    public static void due(String call, Object got, String due) {
        checked++;
        String told = got instanceof String ? "\"" + got + "\"" : String.valueOf(got);
        if (!told.equals(due)) {
            wrong++;
            System.out.println("README.md: " + call + " answered " + told + ", it tells " + due);
        }
    }

    private static List<String> pieces(List<String> lines) {
        List<String> pieces = new ArrayList<>();
        boolean isInside = false;
        for (String line : lines) {
            if (line.startsWith("```")) {
                isInside = line.equals("```java");
            } else if (isInside) {
                pieces.add(line);
            }
        }
        return pieces;
    }

    private static void runPieces(List<String> pieces, Path folder) throws Exception {
        Path source = folder.resolve("Pieces.java");
        Files.writeString(source, program(pieces));
        int failed = ToolProvider.getSystemJavaCompiler().run(null, null, null, "-cp",
                System.getProperty("java.class.path"), "-d", folder.toString(), source.toString());
        if (failed != 0) {
            wrong++;
            System.out.println("the pieces of README.md do not compile");
            return;
        }
        try (URLClassLoader loader = new URLClassLoader(new URL[] {folder.toUri().toURL()})) {
            loader.loadClass("Pieces").getMethod("run").invoke(null);
        }
    }

    private static String program(List<String> pieces) {
        StringBuilder program = new StringBuilder("public class Pieces {\npublic static void run() {\n");
        for (String piece : pieces) {
            int comment = piece.indexOf(DUE);
            if (comment < 0) {
                program.append(piece).append('\n');
            } else {
                append(program, piece.substring(0, comment).trim(), piece.substring(comment + DUE.length()).trim());
            }
        }
        return program.append("}\n}\n").toString();
    }

    /** A call with its answer, as Java that compares the two. */
    private static void append(StringBuilder program, String statement, String due) {
        String call = statement.substring(0, statement.length() - 1);
        Matcher declared = DECLARED.matcher(call);
        if (declared.matches()) {
            program.append(statement).append('\n');
            call = declared.group(2);
        }
        String title = quoted(statement);
        if (due.startsWith("throws ")) {
            program.append("{ Object got; try { got = ").append(call).append("; } catch (RuntimeException e) {")
                    .append(" got = new StringBuilder(\"throws \").append(e.getClass().getSimpleName()); }\n")
                    .append("ReadmeTest.due(").append(title).append(", got, ").append(quoted(due)).append("); }\n");
        } else {
            program.append("ReadmeTest.due(").append(title).append(", ").append(call).append(", ").append(quoted(due))
                    .append(");\n");
        }
    }

    private static String quoted(String text) {
        return "\"" + text.replace("\\", "\\\\").replace("\"", "\\\"") + "\"";
    }

    /** What README.md has to tell is there, and its links lead to a heading. */
    private static void needSections(List<String> lines) {
        Set<String> headings = new TreeSet<>();
        for (String line : lines) {
            if (line.startsWith("#")) {
                headings.add(line.replaceAll("^#+ ", "").toLowerCase().replaceAll("[^a-z0-9 -]", "").replace(' ', '-'));
            }
        }
        for (String line : lines) {
            Matcher link = LINK.matcher(line);
            while (link.find()) {
                due("the link to " + link.group(1), headings.contains(link.group(1)), "true");
            }
        }
        String whole = String.join("\n", lines);
        for (java.lang.reflect.Method method : Mailroom.class.getDeclaredMethods()) {
            if (java.lang.reflect.Modifier.isPublic(method.getModifiers())) {
                due("whether it names " + method.getName(), Pattern.compile("\\b" + method.getName() + "\\b")
                        .matcher(whole).find(), "true");
            }
        }
        for (String told : new String[] {"javac", ".ci/run", "-9", "IllegalStateException", "../shared/tests"}) {
            due("whether it tells " + told, whole.contains(told), "true");
        }
    }

    private static void delete(Path folder) throws IOException {
        try (Stream<Path> all = Files.walk(folder)) {
            all.sorted(Comparator.reverseOrder()).map(Path::toFile).forEach(File::delete);
        }
    }
}
