import java.io.IOException;
import java.lang.reflect.Method;
import java.lang.reflect.Modifier;
import java.net.URL;
import java.net.URLClassLoader;
import java.nio.file.Files;
import java.nio.file.Path;
import java.util.ArrayList;
import java.util.Comparator;
import java.util.List;
import java.util.regex.Matcher;
import java.util.regex.Pattern;
import java.util.stream.Stream;
import javax.tools.ToolProvider;

/** What README.md says: its example, compiled and run, its calls, its statements, its commands for the tests. */
public final class TurnsMultiplesReadmeTest extends Dues {
    private static final Path README = Path.of("README.md");
    private static final Path CI = Path.of(".ci", "run");
    private static final Path TESTS = Path.of("src", "test", "java");

    public static void main(String[] args) throws IOException, ReflectiveOperationException {
        String page = Files.readString(README);
        example(page);
        calls(page);
        statements(page);
        commands(page);
        tests(page);
        end("README.md says how it is");
    }

    private static void holds(String what, boolean so) {
        due(what, so ? 1 : 0, 1);
    }

    private static List<String> blocks(String page, String of) {
        List<String> found = new ArrayList<>();
        Matcher block = Pattern.compile("(?s)\n```" + of + "\n(.*?)```\n").matcher(page);
        while (block.find()) {
            found.add(block.group(1));
        }
        return found;
    }

    // Each call of the example, but for those in its loop, tells its answer ahead of its comment's words.
    private static void example(String page) throws IOException, ReflectiveOperationException {
        sentence("README's example");
        List<String> blocks = blocks(page, "java");
        due("how many examples", blocks.size(), 1);
        StringBuilder body = new StringBuilder();
        List<String> calls = new ArrayList<>();
        List<Integer> wants = new ArrayList<>();
        for (String line : String.join("", blocks).split("\n")) {
            Matcher call = Pattern.compile("(x\\..*\\)); +// (-?\\d+)\\b.*").matcher(line);
            if (call.matches()) {
                calls.add(call.group(1));
                wants.add(Integer.parseInt(call.group(2)));
                body.append("got.add(").append(call.group(1)).append(");\n");
            } else {
                holds(line + " tells its answer", !line.startsWith("x."));
                body.append(line).append('\n');
            }
        }
        holds("the example has calls", !calls.isEmpty());
        List<Integer> gots = answers(body.toString());
        due("answers of the example", gots.size(), calls.size());
        for (int i = 0; i < calls.size() && i < gots.size(); i++) {
            due(calls.get(i), gots.get(i), wants.get(i));
        }
    }

    private static List<Integer> answers(String body) throws IOException, ReflectiveOperationException {
        List<Integer> got = new ArrayList<>();
        Path room = Files.createTempDirectory("readme");
        try {
            Path source = room.resolve("Example.java");
            Files.writeString(source, "public final class Example {\n"
                    + "public static void show(java.util.List<Integer> got) {\n" + body + "}\n}\n");
            int fault = ToolProvider.getSystemJavaCompiler().run(null, null, null, "-cp",
                    System.getProperty("java.class.path"), "-d", room.toString(), source.toString());
            due("the example compiled", fault, 0);
            if (fault == 0) {
                try (URLClassLoader loader = new URLClassLoader(new URL[] {room.toUri().toURL()})) {
                    loader.loadClass("Example").getMethod("show", List.class).invoke(null, got);
                }
            }
        } finally {
            remove(room);
        }
        return got;
    }

    private static void remove(Path room) throws IOException {
        try (Stream<Path> paths = Files.walk(room)) {
            for (Path path : paths.sorted(Comparator.reverseOrder()).toList()) {
                Files.delete(path);
            }
        }
    }

    private static void calls(String page) {
        sentence("README's calls");
        Matcher part = Pattern.compile("(?s)\n### The calls\n(.*?)\n### Refusals\n").matcher(page);
        String listed = part.find() ? part.group(1) : "";
        int named = 0;
        for (Method method : TurnsMultiples.class.getDeclaredMethods()) {
            if (Modifier.isPublic(method.getModifiers())) {
                Matcher call = Pattern.compile("`" + method.getName() + "\\(([^)`]*)\\)`").matcher(listed);
                boolean found = call.find();
                holds(method.getName() + " is named", found);
                if (found) {
                    String arguments = call.group(1);
                    int many = arguments.isEmpty() ? 0 : arguments.split(",").length;
                    due("numbers that " + method.getName() + " takes", many, method.getParameterCount());
                    named++;
                }
            }
        }
        due("calls named", named, 32);
    }

    private static void statements(String page) {
        sentence("README's statements");
        Matcher row = Pattern.compile("\n\\| `([a-z0-9,]+;)`").matcher(page);
        StringBuilder heads = new StringBuilder();
        while (row.find()) {
            String statement = row.group(1);
            heads.append(statement.charAt(0));
            TurnsMultiples x = statement.matches("[wh].*") ? housed("n3;k3;") : new TurnsMultiples();
            due("house of " + statement, tell(x, statement), 1);
        }
        due("all statements told", heads.toString().compareTo("nkpswh"), 0);
        Matcher kind = Pattern.compile("`([mdbexu])` (those|doors)").matcher(page);
        StringBuilder kinds = new StringBuilder();
        while (kind.find()) {
            kinds.append(kind.group(1));
        }
        due("all kinds told", kinds.toString().compareTo("mdbexu"), 0);
    }

    private static void commands(String page) throws IOException {
        sentence("README's commands");
        holds(".ci/run may be run", Files.isExecutable(CI));
        List<String> ran = new ArrayList<>();
        for (String line : Files.readAllLines(CI)) {
            ran.add(line.replaceAll("^[ &]*", "").replaceAll(" \\\\$", ""));
        }
        int javac = 0;
        int java = 0;
        int all = 0;
        for (String line : String.join("", blocks(page, "sh")).split("\n")) {
            if (line.startsWith("javac ") || line.startsWith("java ")) {
                holds(".ci/run runs " + line, ran.contains(line));
                javac += line.startsWith("javac ") ? 1 : 0;
                java += line.startsWith("java ") ? 1 : 0;
            } else if (line.equals(".ci/run")) {
                all++;
            } else {
                holds(line + " is no command for a test", line.matches("out=\\$\\(mktemp -d\\)|name=\\w+"));
            }
        }
        due("how to run all", all, 1);
        due("how to compile a test: ours, a shared one", javac, 2);
        due("how to run a test: ours, a shared one", java, 2);
        for (String line : ran) {
            if (line.startsWith("javac ") || line.startsWith("java ")) {
                holds("README names " + line, page.contains("\n" + line + "\n"));
            }
        }
    }

    private static void tests(String page) throws IOException {
        sentence("README's tests");
        try (Stream<Path> paths = Files.list(TESTS)) {
            for (Path path : paths.toList()) {
                String name = path.getFileName().toString().replace(".java", "");
                holds(name + " is named", page.contains("\n- `" + name + "`"));
            }
        }
        Matcher named = Pattern.compile("\n- `(\\w+)`").matcher(page);
        while (named.find()) {
            holds(named.group(1) + " is there", Files.exists(TESTS.resolve(named.group(1) + ".java")));
        }
    }
}
