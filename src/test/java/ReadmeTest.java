import java.io.IOException;
import java.net.URL;
import java.net.URLClassLoader;
import java.nio.file.Files;
import java.nio.file.Path;
import java.util.ArrayList;
import java.util.List;
import java.util.regex.Matcher;
import java.util.regex.Pattern;
import javax.tools.ToolProvider;

/**
 * What README.md shows is so: its example is compiled and each answer told behind a call is the one
 * that the call gives; its list of tests has every test there is.
 */
public final class ReadmeTest {
    private static final Pattern TOLD = Pattern.compile("^(?!WallChapels)(\\w.*\\));\\s*// (-?\\w+)\\b.*$");
    private static int answers;

    public static void main(String[] args) throws Exception {
        List<String> lines = Files.readAllLines(Kit.root().resolve("README.md"));
        Path out = Files.createTempDirectory("readme");
        Path file = out.resolve("ReadmeExample.java");
        Files.writeString(file, program(lines));
        String path = System.getProperty("java.class.path");
        int failed = ToolProvider.getSystemJavaCompiler().run(null, System.out, System.out,
            "-proc:none", "-cp", path, "-d", out.toString(), file.toString());
        Kit.same("the example compiles", failed, 0);
        Kit.same("the example tells answers", answers >= 20, true);
        if (failed == 0) {
            try (URLClassLoader loader = new URLClassLoader(new URL[] {out.toUri().toURL()})) {
                loader.loadClass("ReadmeExample").getMethod("run").invoke(null);
            }
        }
        allTestsAreListed(String.join("\n", lines));
        Kit.close();
    }

    public static void check(String call, Object got, String due) {
        Kit.same(call + " answers " + got + ", README.md tells " + due, String.valueOf(got).equals(due), true);
    }

    /** The Java of README.md as a class: methods stand in it, all else in its method run. */
    private static String program(List<String> lines) {
        StringBuilder members = new StringBuilder();
        StringBuilder run = new StringBuilder();
        for (List<String> block : javaBlocks(lines)) {
            boolean member = block.get(0).startsWith("static ");
            for (String line : block) {
                Matcher m = TOLD.matcher(line);
                if (!member && m.matches()) {
                    answers++;
                    run.append("ReadmeTest.check(\"").append(m.group(1).replace("\"", "'")).append("\", ")
                        .append(m.group(1)).append(", \"").append(m.group(2)).append("\");\n");
                } else {
                    (member ? members : run).append(line).append('\n');
                }
            }
        }
        return "public final class ReadmeExample {\n" + members + "public static void run() {\n" + run + "}\n}\n";
    }

    private static List<List<String>> javaBlocks(List<String> lines) {
        List<List<String>> blocks = new ArrayList<>();
        List<String> block = null;
        for (String line : lines) {
            if (line.equals("```java")) {
                block = new ArrayList<>();
                blocks.add(block);
            } else if (line.equals("```")) {
                block = null;
            } else if (block != null) {
                block.add(line);
            }
        }
        return blocks;
    }

    private static void allTestsAreListed(String readme) throws IOException {
        try (var files = Files.list(Kit.root().resolve("src/test/java"))) {
            for (Path file : files.toList()) {
                String name = file.getFileName().toString().replace(".java", "");
                if (name.endsWith("Test")) {
                    Kit.same("README.md lists " + name, readme.contains("`" + name + "`"), true);
                }
            }
        }
    }
}
