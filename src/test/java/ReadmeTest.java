import java.lang.reflect.Method;
import java.lang.reflect.Modifier;
import java.lang.reflect.Proxy;
import java.net.URL;
import java.net.URLClassLoader;
import java.nio.file.Files;
import java.nio.file.Path;
import java.util.ArrayList;
import java.util.List;
import java.util.NoSuchElementException;
import java.util.function.Supplier;
import java.util.regex.Matcher;
import java.util.regex.Pattern;
import java.util.stream.Stream;
import javax.tools.ToolProvider;

/** Each call in README.md's examples answers what stands beside it. */
public final class ReadmeTest {
    private static final Pattern LINE =
        Pattern.compile("(?:int (\\w+) = )?(x\\..*);\\s+// (true|false|NoSuchElementException|-?\\d+)(?::.*)?");

    public static void main(String[] args) throws Exception {
        StringBuilder code = new StringBuilder("public final class Readme {\n");
        List<List<String>> blocks = blocks(Files.readAllLines(Path.of("README.md")));
        for (int b = 0; b < blocks.size(); b++) {
            code.append("  public static void example").append(b).append("(Asks due) {\n");
            for (String line : blocks.get(b)) {
                code.append("    ").append(asked(line)).append('\n');
            }
            code.append("  }\n");
        }
        code.append("  public interface Asks {\n");
        code.append("    void is(String call, java.util.function.Supplier<Object> got, String want);\n  }\n}\n");
        Due.yes("README.md has examples", blocks.size() >= 5);
        allCalls();
        run(code.toString(), blocks.size());
        Due.finish("ReadmeTest");
    }

    private static List<List<String>> blocks(List<String> lines) {
        List<List<String>> all = new ArrayList<>();
        boolean inside = false;
        for (String line : lines) {
            if (line.startsWith("```")) {
                inside = line.equals("```java");
                if (inside) {
                    all.add(new ArrayList<>());
                }
            } else if (inside) {
                all.get(all.size() - 1).add(line);
            }
        }
        return all;
    }

    private static String asked(String line) {
        Matcher m = LINE.matcher(line);
        if (!m.matches()) {
            Due.yes("a line of README.md: " + line, line.equals("PuppetBridge x = new PuppetBridge();"));
            return line;
        }
        String call = m.group(2);
        String name = m.group(1);
        String kept = name == null ? "" : "int " + name + " = " + call + "; ";
        String got = name == null ? call : name;
        return kept + "due.is(\"" + call + "\", () -> " + got + ", \"" + m.group(3) + "\");";
    }

    /** README.md shows or names every call of the face. */
    private static void allCalls() throws Exception {
        String all = Files.readString(Path.of("README.md"));
        for (Method m : PuppetBridge.class.getDeclaredMethods()) {
            if (Modifier.isPublic(m.getModifiers())) {
                Due.yes("README.md names " + m.getName(), all.contains("`" + m.getName() + "`"));
            }
        }
    }

    private static void run(String code, int examples) throws Exception {
        Path dir = Files.createTempDirectory("readme");
        try {
            Path file = dir.resolve("Readme.java");
            Files.writeString(file, code);
            int wrong = ToolProvider.getSystemJavaCompiler().run(null, null, null, "-d", dir.toString(),
                "-cp", System.getProperty("java.class.path"), file.toString());
            Due.is("javac of the examples", wrong, 0);
            if (wrong == 0) {
                answers(dir, examples);
            }
        } finally {
            try (Stream<Path> files = Files.list(dir)) {
                for (Path p : (Iterable<Path>) files::iterator) {
                    Files.delete(p);
                }
            }
            Files.delete(dir);
        }
    }

    private static void answers(Path dir, int examples) throws Exception {
        try (URLClassLoader loader = new URLClassLoader(new URL[] {dir.toUri().toURL()})) {
            Class<?> readme = loader.loadClass("Readme");
            Class<?> asks = loader.loadClass("Readme$Asks");
            Object due = Proxy.newProxyInstance(loader, new Class<?>[] {asks}, (proxy, method, told) -> {
                same((String) told[0], (Supplier<?>) told[1], (String) told[2]);
                return null;
            });
            for (int b = 0; b < examples; b++) {
                readme.getMethod("example" + b, asks).invoke(null, due);
            }
        }
    }

    private static void same(String call, Supplier<?> got, String want) {
        String answer;
        try {
            answer = String.valueOf(got.get());
        } catch (NoSuchElementException e) {
            answer = "NoSuchElementException";
        }
        Due.yes("README.md: " + call + " answered " + answer + ", not " + want, answer.equals(want));
    }
}
