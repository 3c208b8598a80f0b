import java.io.IOException;
import java.lang.reflect.Method;
import java.lang.reflect.Modifier;
import java.net.URL;
import java.net.URLClassLoader;
import java.nio.file.Files;
import java.nio.file.Path;
import java.util.ArrayList;
import java.util.List;
import java.util.regex.Matcher;
import java.util.regex.Pattern;
import java.util.stream.Stream;
import javax.tools.ToolProvider;

/** README.md is so: its Java is compiled and run, and each call must answer the number that stands behind it. */
public final class ReadmeTest extends Checks {
    private static final Path README = Path.of("README.md");
    private static final Path TESTS = Path.of("src/test/java");
    private static final Pattern BLOCK = Pattern.compile("(?ms)^```java\\n(.*?)^```$");
    private static final Pattern CALL = Pattern.compile("(x\\.\\w+\\(.*\\)); +// (-?\\d+)(:.*)?");
    private static final String MADE = "FallingSlates x = new FallingSlates();";

    private static final List<String> CALLS = new ArrayList<>();
    private static final List<Integer> ANSWERS = new ArrayList<>();

    public static void main(String[] args) throws Exception {
        String page = Files.readString(README);
        int[] got = run(sourceOf(page));
        due("so many calls were made", got.length, CALLS.size());
        for (int i = 0; i < got.length; i++) due(CALLS.get(i), got[i], ANSWERS.get(i));
        showsTheFace();
        namesTheTests(page);
        end();
    }

    private static void must(String what, boolean holds) {
        due(what + " (1: it is so)", holds ? 1 : 0, 1);
    }

    /** A class that makes the page's calls, each block with an object of its own, and gives all the answers. */
    private static String sourceOf(String page) {
        StringBuilder made = new StringBuilder();
        Matcher block = BLOCK.matcher(page);
        while (block.find()) {
            String[] lines = block.group(1).split("\n");
            must("a new object is made first: " + lines[0], lines[0].equals(MADE));
            made.append("{\n").append(MADE).append('\n');
            for (int i = 1; i < lines.length; i++) {
                Matcher call = CALL.matcher(lines[i]);
                boolean answered = call.matches();
                must("a call and its answer: " + lines[i], answered);
                if (!answered) continue;
                made.append("got[").append(CALLS.size()).append("] = ").append(call.group(1)).append(";\n");
                CALLS.add(call.group(1));
                ANSWERS.add(Integer.valueOf(call.group(2)));
            }
            made.append("}\n");
        }
        return "public final class ReadmeCalls {\npublic static int[] answers() {\nint[] got = new int[" + CALLS.size()
            + "];\n" + made + "return got;\n}\n}\n";
    }

    private static int[] run(String source) throws Exception {
        Path room = Files.createTempDirectory("readme");
        try {
            Path file = Files.writeString(room.resolve("ReadmeCalls.java"), source);
            int compiled = ToolProvider.getSystemJavaCompiler().run(null, null, null, "-proc:none",
                "-cp", System.getProperty("java.class.path"), "-d", room.toString(), file.toString());
            due("javac of the page's calls", compiled, 0);
            if (compiled != 0) return new int[0];
            try (URLClassLoader loader = new URLClassLoader(new URL[] {room.toUri().toURL()})) {
                return (int[]) loader.loadClass("ReadmeCalls").getMethod("answers").invoke(null);
            }
        } finally {
            for (Path file : listed(room)) Files.delete(file);
            Files.delete(room);
        }
    }

    private static List<Path> listed(Path directory) throws IOException {
        try (Stream<Path> all = Files.list(directory)) {
            return all.sorted().toList();
        }
    }

    private static void showsTheFace() {
        for (Method m : FallingSlates.class.getDeclaredMethods()) {
            if (!Modifier.isPublic(m.getModifiers())) continue;
            boolean shown = CALLS.stream().anyMatch(call -> call.startsWith("x." + m.getName() + "("));
            must("a call of " + m.getName() + " is shown", shown);
        }
    }

    private static void namesTheTests(String page) throws IOException {
        must(".ci/run is named", page.contains("\n.ci/run\n"));
        for (Path file : listed(TESTS)) {
            String name = file.getFileName().toString().replace(".java", "");
            must(name + " is named", page.contains("`" + name + "`"));
        }
    }
}
