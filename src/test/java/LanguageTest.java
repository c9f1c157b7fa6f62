import java.io.PrintWriter;
import java.io.StringWriter;
import java.lang.reflect.Field;
import java.lang.reflect.Method;
import java.lang.reflect.Modifier;
import java.nio.file.Files;
import java.nio.file.Path;
import java.util.ArrayList;
import java.util.Arrays;
import java.util.List;
import java.util.Map;
import java.util.Set;
import java.util.TreeMap;
import java.util.TreeSet;
import java.util.regex.Matcher;
import java.util.regex.Pattern;
import java.util.spi.ToolProvider;

/** Rules of LANGUAGE.md that can be seen from the source and from the compiled classes. */
public final class LanguageTest {
    private static final String FACE = "NONE feed end fault sheet force rule go bound article pointer plate points strike later volume at why hand "
        + "enemies give line die takers tell known stale stales mend erratum misses told set page promise ends promised subscribe owed "
        + "lengths length giving given index steal forget thief is count";
    private static int wrong = 0;

    private static void check(boolean holds, String what) {
        if (!holds) {
            wrong++;
            System.out.println(what);
        }
    }

    public static void main(String[] args) throws Exception {
        String source = Files.readString(Path.of("src/main/java/BookOfAll.java"));
        String code = source.replaceAll("(?s)/\\*.*?\\*/", "").replaceAll("//[^\n]*", "").replaceAll("\"[^\"\n]*\"", "\"\"");
        words(code);
        face();
        classes();
        methodLengths(code);
        depths();
        System.out.println(wrong == 0 ? "the language is kept to" : wrong + " rules are not kept");
        if (wrong != 0) {
            System.exit(1);
        }
    }

    private static void words(String code) {
        String not = "throw|throws|try|catch|synchronized|assert|package|native|volatile|transient|protected|Object|Exception|System\\.out|HashMap|Optional|var";
        Matcher m = Pattern.compile("\\b(" + not + ")\\b|->|::|Exact\\b|\\bnew\\s+\\w+\\([^)]*\\)\\s*\\{").matcher(code);
        while (m.find()) {
            check(false, "not of the language: " + m.group());
        }
        m = Pattern.compile("import ([^;]+);").matcher(code);
        while (m.find()) {
            check(m.group(1).matches("java\\.util\\.(Arrays|ArrayList|List)"), "import " + m.group(1));
        }
        m = Pattern.compile("Arrays\\.(\\w+)").matcher(code);
        while (m.find()) {
            check(m.group(1).matches("fill|copyOf|copyOfRange"), "Arrays." + m.group(1));
        }
        for (char c : code.toCharArray()) {
            check(c == '\n' || c >= 32 && c < 127, "a sign that isn't plain: " + (int) c);
        }
    }

    private static void face() {
        Set<String> due = new TreeSet<>(Arrays.asList(FACE.split(" ")));
        Set<String> open = new TreeSet<>();
        for (Method m : BookOfAll.class.getDeclaredMethods()) {
            boolean isPrivate = Modifier.isPrivate(m.getModifiers());
            check(isPrivate || Modifier.isPublic(m.getModifiers()) || m.isSynthetic(), "neither public nor private: " + m);
            if (isPrivate) {
                check(!due.contains(m.getName()), "private, with a public name: " + m.getName());
            } else if (!m.isSynthetic()) {
                open.add(m.getName());
            }
        }
        for (Field f : BookOfAll.class.getDeclaredFields()) {
            if (!Modifier.isPrivate(f.getModifiers())) {
                open.add(f.getName());
            }
        }
        check(open.equals(due), "the face is " + open);
        check(Modifier.isFinal(BookOfAll.class.getModifiers()), "the class is not final");
        check(BookOfAll.class.getDeclaredConstructors().length == 1, "more than one constructor");
    }

    private static void classes() {
        List<Class<?>> all = new ArrayList<>(Arrays.asList(BookOfAll.class.getDeclaredClasses()));
        all.add(BookOfAll.class);
        Set<String> face = new TreeSet<>(Arrays.asList(FACE.split(" ")));
        check(all.size() <= 13, "classes: " + all.size());
        for (Class<?> c : all) {
            check(Modifier.isStatic(c.getModifiers()) || c == BookOfAll.class, "not static: " + c);
            int fields = 0;
            for (Field f : c.getDeclaredFields()) {
                boolean isStatic = Modifier.isStatic(f.getModifiers());
                check(!isStatic || Modifier.isFinal(f.getModifiers()), "static and not final: " + f);
                fields += isStatic ? 0 : 1;
            }
            check(fields <= 20, "fields of " + c + ": " + fields);
            for (Method m : c.getDeclaredMethods()) {
                check(m.getParameterCount() <= 7, "parameters: " + m);
                check(c == BookOfAll.class || !face.contains(m.getName()), "inside, with a public name: " + m);
            }
        }
    }

    /** Which method calls which (the library's, too), as javap tells it of the compiled classes. */
    private static Map<String, Set<String>> calls() {
        List<String> args = new ArrayList<>(Arrays.asList("-c", "-p", "-classpath", System.getProperty("java.class.path"), "BookOfAll"));
        for (Class<?> c : BookOfAll.class.getDeclaredClasses()) {
            args.add(c.getName());
        }
        StringWriter out = new StringWriter();
        int code = ToolProvider.findFirst("javap").orElseThrow().run(new PrintWriter(out), new PrintWriter(System.err), args.toArray(new String[0]));
        check(code == 0, "javap ended with " + code);
        Map<String, Set<String>> all = new TreeMap<>();
        String owner = "";
        String method = "";
        for (String line : out.toString().split("\n")) {
            Matcher type = Pattern.compile("class (BookOfAll\\S*) ").matcher(line);
            Matcher head = Pattern.compile("^  \\S.*?([\\w$]+)\\(.*\\);$").matcher(line);
            Matcher call = Pattern.compile("invoke\\w+ .*// Method (?:\"?([\\w$/\\[]+)\"?\\.)?\"?(\\w+|<init>)\"?:").matcher(line);
            if (type.find() && !line.startsWith(" ")) {
                owner = type.group(1);
            } else if (head.find()) {
                method = owner + "." + head.group(1).replaceAll("^BookOfAll.*", "<init>");
                all.put(method, new TreeSet<>());
            } else if (call.find()) {
                all.get(method).add((call.group(1) == null ? owner : call.group(1)) + "." + call.group(2));
            }
        }
        return all;
    }

    private static Set<String> reached(String from, Map<String, Set<String>> calls) {
        Set<String> all = new TreeSet<>();
        List<String> open = new ArrayList<>(calls.getOrDefault(from, Set.of()));
        while (!open.isEmpty()) {
            String next = open.remove(open.size() - 1);
            if (all.add(next)) {
                open.addAll(calls.getOrDefault(next, Set.of()));
            }
        }
        return all;
    }

    /** Methods that call one another count as one: they are a recursion. */
    private static int depth(String method, Map<String, Set<String>> calls, Map<String, Set<String>> reached, Map<String, Integer> known) {
        if (known.containsKey(method)) {
            return known.get(method);
        }
        Set<String> ring = new TreeSet<>(Set.of(method));
        for (String other : reached.getOrDefault(method, Set.of())) {
            if (reached.getOrDefault(other, Set.of()).contains(method)) {
                ring.add(other);
            }
        }
        int deepest = 0;
        for (String member : ring) {
            for (String to : calls.getOrDefault(member, Set.of())) {
                if (!ring.contains(to)) {
                    deepest = Math.max(deepest, depth(to, calls, reached, known));
                }
            }
        }
        known.put(method, deepest + 1);
        return deepest + 1;
    }

    private static void depths() {
        Map<String, Set<String>> calls = calls();
        Map<String, Set<String>> reached = new TreeMap<>();
        for (String method : calls.keySet()) {
            reached.put(method, reached(method, calls));
        }
        Map<String, Integer> known = new TreeMap<>();
        int methods = 0;
        for (String method : calls.keySet()) {
            int depth = depth(method, calls, reached, known);
            check(depth <= 8, "calls " + depth + " deep: " + method);
            methods++;
        }
        check(methods > 150 && known.get("BookOfAll.giving") > 4 && known.get("BookOfAll.fault") > 4, "calls were not read");
        check(known.containsKey("java/lang/Math.max") && known.containsKey("[I.clone"), "calls of the library were not read");
        for (String method : calls.keySet()) {
            check(!reached.get(method).contains(method) || method.startsWith("BookOfAll$Reader.read"), "a recursion: " + method);
        }
    }

    private static void methodLengths(String code) {
        String[] lines = code.split("\n");
        int begin = -1;
        String indent = "";
        for (int i = 0; i < lines.length; i++) {
            Matcher m = Pattern.compile("^( {4}| {8})\\S[^;=]*\\) \\{$").matcher(lines[i]);
            if (m.find() && begin < 0 && !lines[i].contains("class ")) {
                begin = i;
                indent = m.group(1);
            } else if (begin >= 0 && lines[i].equals(indent + "}")) {
                check(i - begin < 60, "long: " + lines[begin].trim());
                begin = -1;
            }
        }
    }
}
