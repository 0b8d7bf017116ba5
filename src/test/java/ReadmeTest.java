import java.io.ByteArrayOutputStream;
import java.io.File;
import java.io.IOException;
import java.io.PrintStream;
import java.net.URL;
import java.net.URLClassLoader;
import java.nio.charset.StandardCharsets;
import java.nio.file.Files;
import java.nio.file.Path;
import java.util.ArrayList;
import java.util.List;
import java.util.regex.Matcher;
import java.util.regex.Pattern;
import javax.tools.ToolProvider;

/** README.md: its program compiles and prints what it says, and it names every call and every test. */
public final class ReadmeTest {
    private static final Pattern SHOWN = Pattern.compile("(?m)^ *show\\((.*)\\); *// (-?\\d+|true|false)(:.*)?$");
    private static int wrong = 0;

    public static void main(String[] args) throws Exception {
        String readme = Files.readString(Path.of("README.md"));
        Path scratch = Files.createTempDirectory("readme");
        try {
            example(readme, scratch);
        } finally {
            clear(scratch);
        }
        named(readme);
        System.out.println(wrong == 0 ? "the README is as due" : wrong + " things in the README are not as due");
        if (wrong != 0) {
            System.exit(1);
        }
    }

    private static void check(boolean is, String what) {
        if (!is) {
            wrong++;
            System.out.println(what);
        }
    }

    private static void clear(Path scratch) throws IOException {
        File[] files = scratch.toFile().listFiles();
        for (File file : files == null ? new File[0] : files) {
            Files.delete(file.toPath());
        }
        Files.delete(scratch);
    }

    private static void example(String readme, Path scratch) throws Exception {
        Matcher block = Pattern.compile("(?s)```java\n(.*?)```").matcher(readme);
        if (!block.find()) {
            check(false, "there is no program");
            return;
        }
        String program = block.group(1);
        List<String> calls = new ArrayList<>();
        List<String> due = new ArrayList<>();
        Matcher shown = SHOWN.matcher(program);
        while (shown.find()) {
            calls.add(shown.group(1));
            due.add(shown.group(2));
        }
        check(due.size() > 10 && due.size() == program.split("\n +show\\(").length - 1, "a line does not say what it prints");
        List<String> got = printed(program, scratch);
        check(got.size() == due.size(), "the program prints " + got.size() + " lines in place of " + due.size());
        for (int i = 0; i < Math.min(got.size(), due.size()); i++) {
            check(got.get(i).equals(due.get(i)), calls.get(i) + " prints " + got.get(i) + ", the README says " + due.get(i));
        }
    }

    private static List<String> printed(String program, Path scratch) throws Exception {
        Path file = scratch.resolve("Example.java");
        Files.writeString(file, program);
        int failed = ToolProvider.getSystemJavaCompiler().run(null, System.out, System.out, "-proc:none", "-d", scratch.toString(),
            "-cp", System.getProperty("java.class.path"), file.toString());
        if (failed != 0) {
            return List.of();
        }
        ByteArrayOutputStream bytes = new ByteArrayOutputStream();
        PrintStream out = System.out;
        try (URLClassLoader loader = new URLClassLoader(new URL[] {scratch.toUri().toURL()})) {
            System.setOut(new PrintStream(bytes, true, StandardCharsets.UTF_8));
            loader.loadClass("Example").getMethod("main", String[].class).invoke(null, (Object) new String[0]);
        } finally {
            System.setOut(out);
        }
        return bytes.toString(StandardCharsets.UTF_8).lines().toList();
    }

    private static void named(String readme) throws IOException {
        Matcher call = Pattern.compile("public (?:int|boolean) (\\w+)\\(").matcher(Files.readString(Path.of("../shared/DOC.md")));
        int calls = 0;
        while (call.find()) {
            calls++;
            check(readme.contains("`" + call.group(1) + "`"), "the README does not name the call " + call.group(1));
        }
        check(calls == 38, "the document has " + calls + " calls");
        File[] tests = new File("src/test/java").listFiles((in, name) -> name.endsWith("Test.java"));
        for (File test : tests == null ? new File[0] : tests) {
            String name = test.getName().replace(".java", "");
            check(readme.contains("| " + name + " |"), "the README does not name the test " + name);
        }
    }
}
