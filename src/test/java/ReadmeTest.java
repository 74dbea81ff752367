import java.io.IOException;
import java.net.URL;
import java.net.URLClassLoader;
import java.nio.file.Files;
import java.nio.file.Path;
import java.util.function.BiConsumer;
import java.util.regex.Matcher;
import java.util.regex.Pattern;
import javax.tools.ToolProvider;

/** Runs the lines of Java that README.md shows, one after the other, against the answers that it tells. */
public final class ReadmeTest {
    private static final Due DUE = new Due("ReadmeTest");
    private static final Pattern BLOCK = Pattern.compile("(?ms)^```java\n(.*?)^```");
    private static final Pattern CALL =
            Pattern.compile("(?:int \\w+ = )?(house\\.\\w+\\(.*\\));\\s*// (-?\\d+)\\b.*");

    public static void main(String[] args) throws Exception {
        String readme = Files.readString(Path.of(System.getProperty("heatbills.readme", "README.md")));
        namesEveryCall(readme);
        int answers = run(examples(readme));
        DUE.holds("the examples tell answers", answers > 40);
        DUE.end();
    }

    private static void namesEveryCall(String readme) {
        for (var method : HeatBills.class.getMethods()) {
            if (method.getDeclaringClass() == HeatBills.class) {
                DUE.holds("it names " + method.getName(), readme.contains("`" + method.getName() + "("));
                DUE.holds("it shows " + method.getName(), readme.contains("house." + method.getName() + "("));
            }
        }
    }

    /** The lines stay as they are; behind each that tells an answer stands a check of what it answered. */
    private static String examples(String readme) {
        StringBuilder code = new StringBuilder();
        code.append("public final class Examples {\n");
        code.append("public static void run(java.util.function.BiConsumer<String, int[]> due) {\n");
        Matcher block = BLOCK.matcher(readme);
        while (block.find()) {
            for (String line : block.group(1).split("\n")) {
                code.append(checked(line)).append('\n');
            }
        }
        return code.append("}\n}\n").toString();
    }

    private static String checked(String line) {
        Matcher call = CALL.matcher(line);
        if (!call.matches()) {
            DUE.holds("an answer that isn't read: " + line, !line.contains("//"));
            return line;
        }
        String name = line.startsWith("int ") ? line.substring(4, line.indexOf(" =")) : "";
        String answer = name.isEmpty() ? call.group(1) : name;
        String check = "due.accept(\"" + call.group(1) + "\", new int[] {" + answer + ", " + call.group(2) + "});";
        return name.isEmpty() ? check : line.substring(0, line.indexOf("//")) + check;
    }

    private static int run(String code) throws Exception {
        Path folder = Files.createTempDirectory("readme");
        Path source = folder.resolve("Examples.java");
        Path compiled = folder.resolve("Examples.class");
        int[] answers = {0};
        BiConsumer<String, int[]> due = (call, answer) -> {
            answers[0]++;
            DUE.is(call, answer[0], answer[1]);
        };
        try {
            Files.writeString(source, code);
            int failed = ToolProvider.getSystemJavaCompiler().run(null, null, null,
                    "-cp", System.getProperty("java.class.path"), "-d", folder.toString(), source.toString());
            DUE.is("compiling the examples", failed, 0);
            if (failed == 0) {
                runCompiled(folder, due);
            }
        } finally {
            remove(source, compiled, folder);
        }
        return answers[0];
    }

    private static void runCompiled(Path folder, BiConsumer<String, int[]> due) throws Exception {
        try (URLClassLoader loader = new URLClassLoader(new URL[] {folder.toUri().toURL()})) {
            loader.loadClass("Examples").getMethod("run", BiConsumer.class).invoke(null, due);
        }
    }

    private static void remove(Path... files) throws IOException {
        for (Path file : files) {
            Files.deleteIfExists(file);
        }
    }
}
