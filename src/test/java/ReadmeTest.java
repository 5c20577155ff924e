import java.io.IOException;
import java.net.URL;
import java.net.URLClassLoader;
import java.nio.file.Files;
import java.nio.file.Path;
import java.util.ArrayList;
import java.util.List;
import java.util.function.BiConsumer;
import java.util.stream.Stream;
import javax.tools.ToolProvider;

/** What README.md shows is what the class does: each line "call; // answer" of its example is asked. */
public final class ReadmeTest {
    private static final String TICKS = "```";

    public static void main(String[] args) throws Exception {
        List<String> blocks = javaBlocks(Files.readString(Path.of("README.md")));
        if (blocks.size() != 2) {
            System.out.println("README.md has " + blocks.size() + " java blocks; a helper and an example are due");
            System.exit(1);
        }
        Path dir = Files.createTempDirectory("readme");
        Path source = dir.resolve("Example.java");
        Files.writeString(source, program(blocks.get(0), blocks.get(1)));
        int failed = ToolProvider.getSystemJavaCompiler().run(null, null, null,
            "-cp", System.getProperty("java.class.path"), "-d", dir.toString(), source.toString());
        Checks c = new Checks();
        c.same("compiling the example", 0, failed);
        if (failed == 0) {
            askIn(dir, c);
        }
        removeAll(dir);
        c.end();
    }

    private static List<String> javaBlocks(String page) {
        List<String> blocks = new ArrayList<>();
        int at = page.indexOf(TICKS + "java\n");
        while (at >= 0) {
            int from = page.indexOf('\n', at) + 1;
            int to = page.indexOf(TICKS, from);
            blocks.add(page.substring(from, to));
            at = page.indexOf(TICKS + "java\n", to);
        }
        return blocks;
    }

    private static String program(String helper, String example) {
        StringBuilder b = new StringBuilder("public final class Example {\n").append(helper);
        b.append("public static void ask(java.util.function.BiConsumer<String, Object[]> due) {\n");
        int number = 0;
        for (String line : example.split("\n")) {
            int end = line.lastIndexOf("; // ");
            if (line.startsWith("//") || end < 0) {
                b.append(line).append('\n');
                continue;
            }
            String call = line.substring(0, end);
            String answer = line.substring(end + 5).trim();
            b.append("Object got").append(number).append(";\n");
            b.append("try { got").append(number).append(" = ").append(call).append("; }\n");
            b.append("catch (RuntimeException e) { got").append(number).append(" = e.getClass().getSimpleName(); }\n");
            b.append("due.accept(\"").append(call.replace("\"", "\\\"")).append("\", new Object[] {\"");
            b.append(answer).append("\", got").append(number).append("});\n");
            number++;
        }
        return b.append("}\n}\n").toString();
    }

    private static void askIn(Path dir, Checks c) throws Exception {
        BiConsumer<String, Object[]> due = (call, both) -> c.sameText(call, " " + both[0], " " + both[1]);
        try (URLClassLoader loader = new URLClassLoader(new URL[] {dir.toUri().toURL()})) {
            loader.loadClass("Example").getMethod("ask", BiConsumer.class).invoke(null, due);
        }
    }

    private static void removeAll(Path dir) throws IOException {
        try (Stream<Path> files = Files.list(dir)) {
            for (Path file : files.toList()) {
                Files.delete(file);
            }
        }
        Files.delete(dir);
    }
}
