import java.lang.reflect.Method;
import java.nio.file.Files;
import java.nio.file.Path;
import java.util.ArrayList;
import java.util.List;
import java.util.regex.Matcher;
import java.util.regex.Pattern;
import javax.tools.JavaCompiler;
import javax.tools.ToolProvider;

/** The calls of README.md, made as they stand there: each answers the number behind its "//". */
public final class ReadmeTest {
    private static final Pattern ANSWERED = Pattern.compile("(works\\.(\\w+)\\(.*\\)); +// (-?\\d+)\\b.*");
    private static final String[] FACE = {"push", "block", "feed", "order", "fault", "misfit", "told", "go", "wait",
        "plan", "planned", "run", "late", "fit", "wear", "count"};

    private final StringBuilder members = new StringBuilder();
    private final StringBuilder calls = new StringBuilder();

    public static void main(String[] args) throws Exception {
        Check.sentence("README.md says how to use the class, with the calls in an order in which they work");
        String readme = Files.readString(Path.of("README.md"));
        for (String name : FACE) {
            Check.due("README.md names " + name, readme.contains("`" + name + "(") ? 1 : 0, 1);
            Check.due("README.md calls " + name, readme.contains("works." + name + "(") ? 1 : 0, 1);
        }
        ReadmeTest test = new ReadmeTest();
        int answers = test.take(snippets(readme));
        Check.due("README.md tells some answers", answers > 20 ? 1 : 0, 1);
        test.callThem();
        Check.end();
    }

    private static List<List<String>> snippets(String readme) {
        List<List<String>> all = new ArrayList<>();
        boolean inside = false;
        for (String line : readme.split("\n")) {
            if (line.equals("```java")) {
                inside = true;
                all.add(new ArrayList<>());
            } else if (line.startsWith("```")) {
                inside = false;
            } else if (inside) {
                all.get(all.size() - 1).add(line);
            }
        }
        return all;
    }

    /** A snippet that begins with "static" is a method, another is a row of calls. */
    private int take(List<List<String>> snippets) {
        int answers = 0;
        for (List<String> snippet : snippets) {
            boolean method = snippet.get(0).startsWith("static ");
            for (String line : snippet) {
                Matcher answered = ANSWERED.matcher(line);
                if (method) {
                    members.append(line).append('\n');
                } else if (answered.matches()) {
                    answers++;
                    String call = answered.group(1);
                    calls.append("Check.due(\"" + call + "\", " + call + ", " + answered.group(3) + ");\n");
                } else {
                    calls.append(line).append('\n');
                }
            }
        }
        return answers;
    }

    /** Compiled to where this class stands, so that it is of one package with Check. */
    private void callThem() throws Exception {
        Path classes = Path.of(ReadmeTest.class.getProtectionDomain().getCodeSource().getLocation().toURI());
        Path source = classes.resolve("ReadmeCalls.java");
        Files.writeString(source, "final class ReadmeCalls {\n" + members + "static void all() {\n" + calls + "}\n}\n");
        JavaCompiler compiler = ToolProvider.getSystemJavaCompiler();
        int failed = compiler.run(null, null, null, "-cp", classes.toString(), "-d", classes.toString(), source.toString());
        Check.due("README.md's calls compile (0) or not (1)", failed, 0);
        if (failed == 0) {
            Method all = Class.forName("ReadmeCalls").getDeclaredMethod("all");
            all.invoke(null);
        }
    }
}
