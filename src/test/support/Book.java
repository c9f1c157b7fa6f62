import java.lang.reflect.InvocationTargetException;
import java.lang.reflect.Method;
import java.lang.reflect.Modifier;
import java.util.ArrayList;
import java.util.Arrays;
import java.util.HashMap;
import java.util.List;
import java.util.Map;

/**
 * A BookOfAll whose calls are written down, so that another one can be brought to the same state.
 * A boolean counts 1 or 0. It refuses a 513th call, of which the document promises nothing.
 */
final class Book {
    static final int NONE = BookOfAll.NONE;
    static final int MOST_CALLS = 512;
    private static final Map<String, Method> FACE = face();

    private final BookOfAll it = new BookOfAll();
    private final List<Call> calls = new ArrayList<>();

    record Call(String name, int[] args) {
        @Override
        public String toString() {
            return name + Arrays.toString(args).replace('[', '(').replace(']', ')');
        }
    }

    private static Map<String, Method> face() {
        Map<String, Method> all = new HashMap<>();
        for (Method m : BookOfAll.class.getDeclaredMethods()) {
            if (Modifier.isPublic(m.getModifiers())) {
                all.put(m.getName(), m);
            }
        }
        return all;
    }

    static Iterable<String> names() {
        return FACE.keySet();
    }

    int ask(String name, int... args) {
        if (calls.size() == MOST_CALLS) {
            throw new IllegalStateException("a 513th call: " + name);
        }
        Method method = FACE.get(name);
        if (method == null || method.getParameterCount() != args.length) {
            throw new IllegalStateException("no such call: " + name + " of " + args.length);
        }
        calls.add(new Call(name, args));
        Object[] boxed = Arrays.stream(args).boxed().toArray();
        try {
            Object answer = method.invoke(it, boxed);
            return answer instanceof Boolean told ? (told ? 1 : 0) : (Integer) answer;
        } catch (InvocationTargetException e) {
            throw new IllegalStateException(name + Arrays.toString(args) + " threw", e.getCause());
        } catch (IllegalAccessException e) {
            throw new IllegalStateException(e);
        }
    }

    int ask(Call call) {
        return ask(call.name(), call.args());
    }

    int callsMade() {
        return calls.size();
    }

    List<Call> calls() {
        return List.copyOf(calls);
    }

    /** Another one, after the same calls. */
    Book again() {
        Book other = new Book();
        for (Call call : calls) {
            other.ask(call);
        }
        return other;
    }

    // ---- texts and headings as words

    private static int four(String s, int from) {
        int value = 0;
        for (int i = from; i < from + 4; i++) {
            value = value << 8 | (i < s.length() ? s.charAt(i) & 255 : 0);
        }
        return value;
    }

    int article(String heading, int what) {
        return ask("article", four(heading, 0), four(heading, 4), four(heading, 8), what);
    }

    int pointer(String heading, int to) {
        return ask("pointer", four(heading, 0), four(heading, 4), four(heading, 8), to);
    }

    int plate(String heading, int of, int many) {
        return ask("plate", four(heading, 0), four(heading, 4), four(heading, 8), of, many);
    }

    /** The TEXT becomes this one. */
    void text(String s) {
        ask("end", 0);
        for (int i = 0; i < s.length(); i += 20) {
            ask("feed", four(s, i), four(s, i + 4), four(s, i + 8), four(s, i + 12), four(s, i + 16));
        }
        ask("end", s.length());
    }

    int sheet(String s) {
        text(s);
        return ask("sheet");
    }

    int forVolume(String s, int volume) {
        int put = ask("force", sheet(s), volume);
        if (put == NONE) {
            throw new IllegalStateException("not put in force: " + s);
        }
        return put;
    }

    int forAll(String s) {
        return forVolume(s, NONE);
    }

    /** A HAND with all FIELDS, 20 years old on DAY 0. */
    int writer(int skill) {
        return ask("hand", 255, skill, -20 * 365);
    }

    /** The ARTICLE is GIVEN to the HAND, and the LINES that it lacks are written, leaning on nothing. */
    void write(int article, int hand) {
        ask("give", article, hand);
        int lacks = ask("is", article, 3) - ask("is", article, 4);
        for (int i = 0; i < lacks; i++) {
            ask("line", article, NONE, 0);
        }
    }
}
