import java.lang.reflect.InvocationTargetException;
import java.lang.reflect.Method;
import java.lang.reflect.Modifier;
import java.util.ArrayList;
import java.util.Arrays;
import java.util.Comparator;
import java.util.List;
import java.util.Random;

/** No call throws or fails to end, for any arguments in any state, long behind the 512th call, too. */
public final class AnyArgumentsTest {
    private static final int OBJECTS = 150;
    private static final int CALLS = 4000;
    private static final int[] FAR = {Integer.MIN_VALUE, Integer.MIN_VALUE + 1, Integer.MIN_VALUE + 100, Integer.MAX_VALUE, Integer.MAX_VALUE - 1,
        -1, -2, 6, 12, 20, 30, 32, 33, 40, 60, 64, 99, 100, 300, 400, 599, 600, 601, 999, 1000, 2000, 2001, 1 << 29, 1 << 30, 0x61616161, 0x62206330};
    private static final String[] TEXT = {"skip", "a", ";", "write", "not", "[", "]", "(", ")", "1", "=", "+", "-", "*", "/", "pay", "short", "owe", "99999",
        "asked", "least", "long", "must", "late", "or", "and", "numbers", "last", "blanks", "pass"};

    private static final List<String> OFTEN = List.of("line", "give", "erratum", "tell");
    private static final List<String> RARE = List.of("set", "die", "strike", "later", "go", "end");

    public static void main(String[] args) throws IllegalAccessException {
        List<Method> face = new ArrayList<>();
        for (Method m : BookOfAll.class.getDeclaredMethods()) {
            if (Modifier.isPublic(m.getModifiers())) {
                face.add(m);
            }
        }
        face.sort(Comparator.comparing(Method::getName));
        List<Method> often = face.stream().filter(m -> OFTEN.contains(m.getName())).toList();
        for (int i = 0; i < 8; i++) {
            face.addAll(often);
        }
        int[] most = new int[9];
        for (int seed = 0; seed < OBJECTS; seed++) {
            Random random = new Random(seed);
            BookOfAll book = new BookOfAll();
            for (int i = 0; i < CALLS; i++) {
                Method method = face.get(random.nextInt(face.size()));
                // All VOLUMES would soon be SET, all HANDS be dead, and little could be written.
                if (!RARE.contains(method.getName()) || random.nextInt(12) == 0) {
                    call(book, method, random);
                }
            }
            for (int what = 0; what < most.length; what++) {
                most[what] = Math.max(most[what], book.count(what));
            }
        }
        System.out.println("no call threw; the most that came: " + Arrays.toString(most));
    }

    private static void call(BookOfAll book, Method method, Random random) throws IllegalAccessException {
        Object[] args = new Object[method.getParameterCount()];
        boolean text = method.getName().equals("feed") && random.nextInt(8) > 0;
        String words = text ? words(random) : "";
        boolean hand = method.getName().equals("hand") && random.nextInt(4) > 0;
        boolean heading = List.of("article", "pointer", "plate").contains(method.getName()) && random.nextInt(8) > 0;
        for (int i = 0; i < args.length; i++) {
            args[i] = text ? four(words, 4 * i) : heading && i < 3 ? heading(i, random) : number(random);
            args[i] = hand ? (i == 0 ? 255 : i == 1 ? 1 + random.nextInt(20) : -random.nextInt(40001)) : args[i];
        }
        try {
            method.invoke(book, args);
        } catch (InvocationTargetException e) {
            System.out.println(method.getName() + Arrays.toString(args) + " threw " + e.getCause());
            System.exit(1);
        }
    }

    private static int number(Random random) {
        int sort = random.nextInt(10);
        if (sort == 0) {
            return FAR[random.nextInt(FAR.length)];
        }
        if (sort == 1) {
            return random.nextInt();
        }
        return random.nextInt(sort < 6 ? 6 : sort < 8 ? 60 : 200);
    }

    /** Of a HEADING that is a MARK alone, or a MARK and " bc": most others would be refused. */
    private static int heading(int place, Random random) {
        int mark = random.nextInt(4) == 0 ? '0' + random.nextInt(10) : 'a' + random.nextInt(26);
        return place > 0 ? 0 : mark << 24 | (random.nextBoolean() ? 0 : 0x206263);
    }

    private static String words(Random random) {
        StringBuilder s = new StringBuilder();
        while (s.length() < 20) {
            s.append(TEXT[random.nextInt(TEXT.length)]).append(random.nextBoolean() ? " " : "");
        }
        return s.toString();
    }

    private static int four(String s, int from) {
        return s.charAt(from) << 24 | s.charAt(from + 1) << 16 | s.charAt(from + 2) << 8 | s.charAt(from + 3);
    }
}
