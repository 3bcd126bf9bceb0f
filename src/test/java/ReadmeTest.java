import java.io.StringWriter;
import java.net.URI;
import java.net.URL;
import java.net.URLClassLoader;
import java.nio.file.Files;
import java.nio.file.Path;
import java.util.ArrayList;
import java.util.List;
import java.util.Set;
import java.util.TreeSet;
import java.util.regex.Matcher;
import java.util.regex.Pattern;
import javax.tools.JavaCompiler;
import javax.tools.JavaFileObject;
import javax.tools.SimpleJavaFileObject;
import javax.tools.ToolProvider;

/** The calls that README.md shows answer what it says of them, and it lists the calls of the document's face. */
public final class ReadmeTest {
    /** A call with what it answers or throws; what follows a colon is said to the reader alone. */
    private static final Pattern SHOWN =
            Pattern.compile("(\\w+ \\w+ = )?(foundry\\..+);\\s+// (answers|throws) ([^:]+)(: .*)?");
    private static final Pattern IN_FACE = Pattern.compile("public \\S+ (\\w+)\\(([^)]*)\\)[^;{]*;");
    private static final Pattern IN_TABLE = Pattern.compile("`(\\w+\\([^`]*\\))`");
    private static final Pattern COMMAND = Pattern.compile("`([a-z]+ [0-9 ]+)`");
    private static final Path CLASSES = Path.of("build", "readme");

    private final StringBuilder code = new StringBuilder();
    private final List<String> calls = new ArrayList<>();
    private final List<String> due = new ArrayList<>();

    public static void main(String[] args) throws Exception {
        String document = Files.readString(Path.of(args[0]));
        String readme = Files.readString(Path.of("README.md"));
        Check.same("the calls that it lists", listed(readme), face(document));
        commands(readme);
        ReadmeTest test = new ReadmeTest();
        test.read(readme);
        Check.same("there are calls shown", test.calls.size() > 30, true);
        Check.same("its sections", readme.contains("\n## How to use the class\n")
                && readme.contains("\n## How to run the tests\n") && readme.contains("\n.ci/run\n"), true);
        test.compare(test.run());
        Check.end("ReadmeTest");
    }

    /** As "addAlloy(copper, tin, silver)". */
    private static Set<String> face(String document) {
        Set<String> face = new TreeSet<>();
        String block = document.substring(document.indexOf("```java"), document.indexOf("## Terms"));
        Matcher matcher = IN_FACE.matcher(block);
        while (matcher.find()) {
            face.add(matcher.group(1) + "(" + matcher.group(2).replaceAll("\\w+ (\\w+)", "$1") + ")");
        }
        return face;
    }

    private static Set<String> listed(String readme) {
        Set<String> listed = new TreeSet<>();
        Matcher matcher = IN_TABLE.matcher(readme);
        while (matcher.find()) {
            listed.add(matcher.group(1));
        }
        return listed;
    }

    /** Each of the nine commands is shown, in a form that a script may have. */
    private static void commands(String readme) {
        Set<String> names = new TreeSet<>();
        Matcher matcher = COMMAND.matcher(readme);
        while (matcher.find()) {
            String command = matcher.group(1);
            names.add(command.substring(0, command.indexOf(' ')));
            String outcome = Given.outcomeOf(new BowFoundry(), command);
            Check.same("form of " + command, outcome.equals("throws.IllegalArgumentException"), false);
        }
        Check.same("the commands", names, Set.of("alloy", "mould", "buy", "cast", "test", "melt", "renew", "limit",
                "step"));
    }

    /** Makes one method of all the Java that README.md shows. */
    private void read(String readme) {
        boolean inside = false;
        for (String line : readme.split("\n")) {
            if (line.startsWith("```")) {
                inside = line.equals("```java");
            } else if (inside) {
                add(line);
            }
        }
    }

    private void add(String line) {
        Matcher shown = SHOWN.matcher(line);
        if (!shown.matches()) {
            Check.same("nothing is said that is not tested: " + line, line.contains("//"), false);
            code.append(line).append('\n');
            return;
        }
        String call = shown.group(2);
        boolean isRefused = shown.group(3).equals("throws");
        calls.add(call);
        due.add((isRefused ? "throws." : "") + shown.group(4));
        if (isRefused) {
            code.append("try { got.add(String.valueOf(").append(call).append(")); }");
            code.append(" catch (RuntimeException e) { got.add(\"throws.\" + e.getClass().getSimpleName()); }\n");
        } else if (shown.group(1) != null) {
            String name = shown.group(1).split(" ")[1];
            code.append(shown.group(1)).append(call).append("; got.add(String.valueOf(").append(name).append("));\n");
        } else {
            code.append("got.add(String.valueOf(").append(call).append("));\n");
        }
    }

    private void compare(List<String> got) {
        Check.same("the number of answers", got.size(), due.size());
        for (int i = 0; i < Math.min(got.size(), due.size()); i++) {
            Check.same(calls.get(i), got.get(i), due.get(i));
        }
    }

    private List<String> run() throws Exception {
        List<String> got = new ArrayList<>();
        if (compiled()) {
            URL[] places = {CLASSES.toUri().toURL()};
            try (URLClassLoader loader = new URLClassLoader(places, ReadmeTest.class.getClassLoader())) {
                loader.loadClass("Shown").getMethod("run", List.class).invoke(null, got);
            }
        }
        return got;
    }

    private boolean compiled() throws Exception {
        String source = "public final class Shown { public static void run(java.util.List<String> got) {\n"
                + code + "} }";
        JavaFileObject file = new SimpleJavaFileObject(URI.create("string:///Shown.java"), JavaFileObject.Kind.SOURCE) {
            @Override
            public CharSequence getCharContent(boolean ignoreEncodingErrors) {
                return source;
            }
        };
        Files.createDirectories(CLASSES);
        JavaCompiler compiler = ToolProvider.getSystemJavaCompiler();
        List<String> options = List.of("-d", CLASSES.toString(), "-cp", System.getProperty("java.class.path"));
        StringWriter said = new StringWriter();
        boolean compiled = compiler.getTask(said, null, null, options, null, List.of(file)).call();
        Check.same("it compiles " + said, compiled, true);
        return compiled;
    }
}
