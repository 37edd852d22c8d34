import java.io.IOException;
import java.lang.reflect.Method;
import java.lang.reflect.Modifier;
import java.net.URL;
import java.net.URLClassLoader;
import java.nio.file.DirectoryStream;
import java.nio.file.Files;
import java.nio.file.Path;
import java.util.ArrayList;
import java.util.List;
import java.util.regex.Matcher;
import java.util.regex.Pattern;
import javax.tools.JavaCompiler;
import javax.tools.ToolProvider;

/**
 * README.md: its example is compiled as it stands and run, and each call in it answers what stands
 * behind the call; every call of the face and every test is named.
 */
final class ReadmeTest {
    /** A call that stands alone, and the answer that is told behind it. */
    private static final Pattern CALL = Pattern.compile("(x\\.\\w+\\(.*\\));\\s+// (-?\\d+|[A-Z]+)\\b.*");

    public static void main(String[] args) throws Exception {
        String readme = Files.readString(Path.of("README.md"));
        namesEveryCall(readme);
        namesEveryTest(readme);
        example(readme);
        Check.finish();
    }

    private static void namesEveryCall(String readme) {
        for (Method m : SaltBorder.class.getDeclaredMethods()) {
            if (Modifier.isPublic(m.getModifiers())) {
                String call = "`" + m.getName() + "(";
                Check.isSo("README.md names " + m.getName(), readme.contains(call));
            }
        }
    }

    private static void namesEveryTest(String readme) throws IOException {
        try (DirectoryStream<Path> tests = Files.newDirectoryStream(Path.of("src/test/java"))) {
            for (Path test : tests) {
                String name = test.getFileName().toString().replace(".java", "");
                Check.isSo("README.md names " + name, readme.contains("`" + name + "`"));
            }
        }
        Check.isSo("README.md names .ci/run", readme.contains(".ci/run"));
    }

    private static void example(String readme) throws Exception {
        Matcher block = Pattern.compile("(?s)```java\n(.*?)```").matcher(readme);
        Check.isSo("README.md has an example", block.find());
        List<String> calls = new ArrayList<>();
        List<Long> told = new ArrayList<>();
        StringBuilder code = new StringBuilder("public final class Example {\n"
                + "public static long[] answers() {\nlong[] got = new long[1000]; int at = 0;\n");
        for (String line : block.group(1).split("\n")) {
            Matcher call = CALL.matcher(line);
            if (call.matches()) {
                calls.add(call.group(1));
                told.add(number(call.group(2)));
                code.append("got[at++] = ").append(call.group(1)).append(";\n");
            } else {
                Check.isSo("an answer stands behind it: " + line, !line.startsWith("x."));
                code.append(line).append('\n');
            }
        }
        code.append("return got;\n}\n}\n");
        Check.isSo("the example has calls", calls.size() > 1);
        long[] got = run(code.toString());
        for (int k = 0; k < calls.size(); k++) {
            Check.due("README.md: " + calls.get(k), got[k], told.get(k));
        }
    }

    private static long number(String told) throws Exception {
        if (Character.isLetter(told.charAt(0))) {
            return SaltBorder.class.getField(told).getLong(null);
        }
        return Long.parseLong(told);
    }

    private static long[] run(String source) throws Exception {
        Path folder = Files.createTempDirectory("readme");
        Path file = folder.resolve("Example.java");
        Path made = folder.resolve("Example.class");
        try {
            Files.writeString(file, source);
            JavaCompiler compiler = ToolProvider.getSystemJavaCompiler();
            int failed = compiler.run(null, null, null, "-cp", System.getProperty("java.class.path"),
                    "-d", folder.toString(), file.toString());
            Check.due("the example compiles", failed, 0);
            try (URLClassLoader loader = new URLClassLoader(new URL[] {folder.toUri().toURL()})) {
                return (long[]) loader.loadClass("Example").getMethod("answers").invoke(null);
            }
        } finally {
            Files.deleteIfExists(made);
            Files.deleteIfExists(file);
            Files.deleteIfExists(folder);
        }
    }
}
