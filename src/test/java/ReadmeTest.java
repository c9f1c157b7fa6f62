import java.io.ByteArrayOutputStream;
import java.io.PrintStream;
import java.lang.reflect.Method;
import java.lang.reflect.Modifier;
import java.net.URL;
import java.net.URLClassLoader;
import java.nio.file.Files;
import java.nio.file.Path;
import java.util.ArrayList;
import java.util.List;
import java.util.regex.Matcher;
import java.util.regex.Pattern;
import java.util.spi.ToolProvider;

/** README.md says how to use the class: its program is compiled and run, and every call is named. */
public final class ReadmeTest {
    private static int wrong = 0;

    private static void check(boolean holds, String what) {
        if (!holds) {
            wrong++;
            System.out.println(what);
        }
    }

    public static void main(String[] args) throws Exception {
        String readme = Files.readString(Path.of("README.md"));
        for (Method m : BookOfAll.class.getDeclaredMethods()) {
            boolean open = Modifier.isPublic(m.getModifiers());
            check(!open || readme.contains("`" + m.getName() + "`"), "README.md doesn't name " + m.getName());
        }
        check(readme.contains(".ci/run"), "README.md doesn't say how to run the tests");
        Path dir = Path.of("src/test/java");
        try (var files = Files.list(dir)) {
            for (Path test : files.toList()) {
                String name = test.getFileName().toString().replace(".java", "");
                check(readme.contains("`" + name + "`"), "README.md doesn't name the test " + name);
            }
        }
        Matcher block = Pattern.compile("(?s)```java\n(.*?)```").matcher(readme);
        check(block.find(), "README.md has no program");
        if (wrong == 0) {
            example(block.group(1));
        }
        System.out.println(wrong == 0 ? "README.md is as the class is" : wrong + " things in README.md are wrong");
        if (wrong != 0) {
            System.exit(1);
        }
    }

    /** What is printed is the number with which the comment at that line begins. */
    private static void example(String program) throws Exception {
        List<String> due = new ArrayList<>();
        Matcher print = Pattern.compile("println\\(.*\\); *// (-?\\d+)").matcher(program);
        while (print.find()) {
            due.add(print.group(1));
        }
        String out = run(program);
        check(due.size() > 5 && due.equals(List.of(out.split("\\R"))), "the program prints " + List.of(out.split("\\R")) + ", due is " + due);
    }

    private static String run(String program) throws Exception {
        Path dir = Files.createTempDirectory("readme");
        Path source = dir.resolve("Example.java");
        Files.writeString(source, program);
        String classes = System.getProperty("java.class.path");
        int code = ToolProvider.findFirst("javac").orElseThrow().run(System.out, System.err, "-d", dir.toString(), "-cp", classes, source.toString());
        check(code == 0, "the program doesn't compile");
        PrintStream screen = System.out;
        ByteArrayOutputStream printed = new ByteArrayOutputStream();
        try (URLClassLoader loader = new URLClassLoader(new URL[] {dir.toUri().toURL()})) {
            System.setOut(new PrintStream(printed));
            loader.loadClass("Example").getMethod("main", String[].class).invoke(null, (Object) new String[0]);
        } finally {
            System.setOut(screen);
            Files.deleteIfExists(source);
            Files.deleteIfExists(dir.resolve("Example.class"));
            Files.deleteIfExists(dir);
        }
        return printed.toString().trim();
    }
}
