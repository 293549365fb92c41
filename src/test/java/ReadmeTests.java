import java.io.StringWriter;
import java.lang.reflect.Method;
import java.lang.reflect.Modifier;
import java.net.URI;
import java.net.URL;
import java.net.URLClassLoader;
import java.nio.file.Files;
import java.nio.file.Path;
import java.util.List;
import java.util.Set;
import java.util.TreeSet;
import java.util.regex.Matcher;
import java.util.regex.Pattern;
import java.util.stream.Collectors;
import java.util.stream.Stream;
import javax.tools.JavaCompiler;
import javax.tools.JavaFileObject;
import javax.tools.SimpleJavaFileObject;
import javax.tools.ToolProvider;

/** What README.md says holds: its example is compiled and run, its calls and its tests are those that there are. */
public final class ReadmeTests {
    private static final Pattern ANSWERED = Pattern.compile("(x\\.\\w+\\([^;]*\\)); +// (-?\\d+):.*");
    private static final String ANOTHER_CALL = "        due(\"%s\", %s, %s);\n";

    private static int wrong = 0;

    public static void main(String[] args) throws Exception {
        String readme = Files.readString(Path.of("README.md"));
        exampleAnswersAsWritten(readme);
        callsAreTheFace(readme);
        testsAreThoseThereAre(readme);
        System.out.println(wrong == 0 ? "the README holds" : wrong + " sentences of the README do not hold");
        if (wrong != 0) {
            System.exit(1);
        }
    }

    /** Called by the example, too. */
    public static void due(String what, int got, int want) {
        if (got != want) {
            wrong++;
            System.out.println("README: " + what + " answered " + got + ", written is " + want);
        }
    }

    private static void same(String what, Set<String> written, Set<String> there) {
        if (!written.equals(there)) {
            wrong++;
            System.out.println("README: " + what + " written are " + written + ", there are " + there);
        }
    }

    private static void exampleAnswersAsWritten(String readme) throws Exception {
        Matcher block = Pattern.compile("(?s)```java\n(.*?)```").matcher(readme);
        due("an example", block.find() ? 1 : 0, 1);
        StringBuilder body = new StringBuilder();
        int answers = 0;
        for (String line : block.group(1).split("\n")) {
            Matcher answered = ANSWERED.matcher(line);
            if (answered.matches()) {
                String call = answered.group(1);
                body.append(String.format(ANOTHER_CALL, call, call, answered.group(2)));
                answers++;
            } else {
                body.append("        ").append(line).append('\n');
            }
        }
        due("lines with a comment that tells an answer", answers, block.group(1).split("//", -1).length - 1);
        run("public final class Example {\n    public static void run() {\n"
                + body.toString().replace(" due(", " ReadmeTests.due(") + "    }\n}\n");
    }

    private static void run(String source) throws Exception {
        Path built = Files.createTempDirectory("readme");
        JavaCompiler compiler = ToolProvider.getSystemJavaCompiler();
        JavaFileObject file = new SimpleJavaFileObject(URI.create("string:///Example.java"), JavaFileObject.Kind.SOURCE) {
            @Override
            public CharSequence getCharContent(boolean ignoreEncodingErrors) {
                return source;
            }
        };
        StringWriter said = new StringWriter();
        List<String> options = List.of("-d", built.toString(), "-cp", System.getProperty("java.class.path"));
        boolean compiled = compiler.getTask(said, null, null, options, null, List.of(file)).call();
        due("its example is compiled " + said, compiled ? 1 : 0, 1);
        if (compiled) {
            try (URLClassLoader loader = new URLClassLoader(new URL[] {built.toUri().toURL()})) {
                loader.loadClass("Example").getMethod("run").invoke(null);
            }
        }
        Files.deleteIfExists(built.resolve("Example.class"));
        Files.delete(built);
    }

    private static void callsAreTheFace(String readme) {
        Set<String> written = new TreeSet<>();
        String list = readme.substring(readme.indexOf("- Told:"), readme.indexOf("A call that cannot be met"));
        Matcher name = Pattern.compile("`(\\w+)`").matcher(list);
        while (name.find()) {
            written.add(name.group(1));
        }
        same("calls", written, Stream.of(PavedByNext.class.getDeclaredMethods())
                .filter(m -> Modifier.isPublic(m.getModifiers())).map(Method::getName)
                .collect(Collectors.toCollection(TreeSet::new)));
    }

    private static void testsAreThoseThereAre(String readme) throws Exception {
        Set<String> written = new TreeSet<>();
        Matcher name = Pattern.compile("(?m)^- `(\\w+)`: ").matcher(readme.substring(readme.indexOf("## Tests")));
        while (name.find()) {
            written.add(name.group(1) + ".java");
        }
        try (Stream<Path> files = Files.list(Path.of("src/test/java"))) {
            same("tests", written, files.map(p -> p.getFileName().toString())
                    .collect(Collectors.toCollection(TreeSet::new)));
        }
    }
}
