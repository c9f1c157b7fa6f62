import java.lang.reflect.Field;
import java.lang.reflect.Method;
import java.lang.reflect.Modifier;
import java.nio.file.Files;
import java.nio.file.Path;
import java.util.ArrayList;
import java.util.Arrays;
import java.util.List;
import java.util.Set;
import java.util.TreeSet;
import java.util.regex.Matcher;
import java.util.regex.Pattern;

/** Rules of LANGUAGE.md that can be seen from the source and from the compiled classes. */
public final class LanguageTest {
    private static final String FACE = "NONE feed end fault sheet force rule go bound article pointer plate points strike later volume at why hand "
        + "enemies give line die takers tell known stale stales mend erratum misses told set page promise ends promised subscribe owed "
        + "lengths length giving given index steal forget thief is count";
    private static int wrong = 0;

    private static void check(boolean holds, String what) {
        if (!holds) {
            wrong++;
            System.out.println(what);
        }
    }

    public static void main(String[] args) throws Exception {
        String source = Files.readString(Path.of("src/main/java/BookOfAll.java"));
        String code = source.replaceAll("(?s)/\\*.*?\\*/", "").replaceAll("//[^\n]*", "").replaceAll("\"[^\"\n]*\"", "\"\"");
        words(code);
        face();
        classes();
        methodLengths(code);
        System.out.println(wrong == 0 ? "the language is kept to" : wrong + " rules are not kept");
        if (wrong != 0) {
            System.exit(1);
        }
    }

    private static void words(String code) {
        String not = "throw|throws|try|catch|synchronized|assert|package|native|volatile|transient|protected|Object|Exception|System\\.out|HashMap|Optional|var";
        Matcher m = Pattern.compile("\\b(" + not + ")\\b|->|::|Exact\\b|\\bnew\\s+\\w+\\([^)]*\\)\\s*\\{").matcher(code);
        while (m.find()) {
            check(false, "not of the language: " + m.group());
        }
        m = Pattern.compile("import ([^;]+);").matcher(code);
        while (m.find()) {
            check(m.group(1).matches("java\\.util\\.(Arrays|ArrayList|List)"), "import " + m.group(1));
        }
        m = Pattern.compile("Arrays\\.(\\w+)").matcher(code);
        while (m.find()) {
            check(m.group(1).matches("fill|copyOf|copyOfRange"), "Arrays." + m.group(1));
        }
        for (char c : code.toCharArray()) {
            check(c == '\n' || c >= 32 && c < 127, "a sign that isn't plain: " + (int) c);
        }
    }

    private static void face() {
        Set<String> due = new TreeSet<>(Arrays.asList(FACE.split(" ")));
        Set<String> open = new TreeSet<>();
        for (Method m : BookOfAll.class.getDeclaredMethods()) {
            boolean isPrivate = Modifier.isPrivate(m.getModifiers());
            check(isPrivate || Modifier.isPublic(m.getModifiers()) || m.isSynthetic(), "neither public nor private: " + m);
            if (isPrivate) {
                check(!due.contains(m.getName()), "private, with a public name: " + m.getName());
            } else if (!m.isSynthetic()) {
                open.add(m.getName());
            }
        }
        for (Field f : BookOfAll.class.getDeclaredFields()) {
            if (!Modifier.isPrivate(f.getModifiers())) {
                open.add(f.getName());
            }
        }
        check(open.equals(due), "the face is " + open);
        check(Modifier.isFinal(BookOfAll.class.getModifiers()), "the class is not final");
        check(BookOfAll.class.getDeclaredConstructors().length == 1, "more than one constructor");
    }

    private static void classes() {
        List<Class<?>> all = new ArrayList<>(Arrays.asList(BookOfAll.class.getDeclaredClasses()));
        all.add(BookOfAll.class);
        Set<String> face = new TreeSet<>(Arrays.asList(FACE.split(" ")));
        check(all.size() <= 13, "classes: " + all.size());
        for (Class<?> c : all) {
            check(Modifier.isStatic(c.getModifiers()) || c == BookOfAll.class, "not static: " + c);
            int fields = 0;
            for (Field f : c.getDeclaredFields()) {
                boolean isStatic = Modifier.isStatic(f.getModifiers());
                check(!isStatic || Modifier.isFinal(f.getModifiers()), "static and not final: " + f);
                fields += isStatic ? 0 : 1;
            }
            check(fields <= 20, "fields of " + c + ": " + fields);
            for (Method m : c.getDeclaredMethods()) {
                check(m.getParameterCount() <= 7, "parameters: " + m);
                check(c == BookOfAll.class || !face.contains(m.getName()), "inside, with a public name: " + m);
            }
        }
    }

    private static void methodLengths(String code) {
        String[] lines = code.split("\n");
        int begin = -1;
        String indent = "";
        for (int i = 0; i < lines.length; i++) {
            Matcher m = Pattern.compile("^( {4}| {8})\\S[^;=]*\\) \\{$").matcher(lines[i]);
            if (m.find() && begin < 0 && !lines[i].contains("class ")) {
                begin = i;
                indent = m.group(1);
            } else if (begin >= 0 && lines[i].equals(indent + "}")) {
                check(i - begin < 60, "long: " + lines[begin].trim());
                begin = -1;
            }
        }
    }
}
