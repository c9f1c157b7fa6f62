import java.lang.reflect.Method;
import java.util.ArrayList;
import java.util.Arrays;
import java.util.HashMap;
import java.util.LinkedHashSet;
import java.util.List;
import java.util.Map;
import java.util.Random;
import java.util.Set;
import java.util.TreeSet;

/**
 * Random runs of calls on BookOfAll and on a second telling of the document, which is slow and
 * plain: it tries ways where the class counts, and keeps nothing that it can find again.
 */
public final class ModelTest {
    private static final int RUNS = 1500;
    private static final int CALLS = 512;
    private static int wrong = 0;

    public static void main(String[] args) throws Exception {
        int runs = args.length > 0 ? Integer.parseInt(args[0]) : RUNS;
        int first = args.length > 1 ? Integer.parseInt(args[1]) : 0;
        Map<String, int[]> seen = new HashMap<>();
        for (int seed = first; seed < first + runs && wrong < 10; seed++) {
            new Run(seed, seen).play();
        }
        if (args.length > 2) {
            for (String name : new TreeSet<>(seen.keySet())) {
                int[] n = seen.get(name);
                System.out.println(name + ": " + n[0] + " calls, " + n[1] + " answered NONE or false");
            }
        }
        for (String name : METHODS.keySet()) {
            int[] n = seen.get(name);
            if (n == null || n[0] == n[1] && !name.equals("fault")) {
                wrong++;
                System.out.println(name + " was never answered with more than NONE or false");
            }
        }
        System.out.println(wrong == 0 ? "all answers are those of the model" : wrong + " answers are not those of the model");
        if (wrong != 0) {
            System.exit(1);
        }
    }

    private static final Map<String, Method[]> METHODS = new HashMap<>();

    static {
        for (Method m : BookOfAll.class.getDeclaredMethods()) {
            if (java.lang.reflect.Modifier.isPublic(m.getModifiers())) {
                try {
                    METHODS.put(m.getName(), new Method[] {m, Plain.class.getDeclaredMethod(m.getName(), m.getParameterTypes())});
                } catch (NoSuchMethodException e) {
                    throw new IllegalStateException(e);
                }
            }
        }
    }

    /** One run: the calls are drawn with an eye on the model's state, so that many are not refused. */
    static final class Run {
        final int seed;
        final Random random;
        final BookOfAll book = new BookOfAll();
        final Plain plain = new Plain();
        final Map<String, int[]> seen;
        final List<String> log = new ArrayList<>();
        int calls = 0;
        boolean failed = false;
        final String letters;
        final int lengthy;

        Run(int seed, Map<String, int[]> seen) {
            this.seed = seed;
            this.seen = seen;
            random = new Random(seed * 7919L + 13);
            String[] sets = {"abcd", "aez09", "abtxz7", "abcdefghijklmnopqrstuvwxyz0123456789", "ae"};
            letters = sets[seed % sets.length];
            lengthy = new int[] {3, 6, 12, 60, 200}[random.nextInt(5)];
        }

        int r(int n) {
            return random.nextInt(n);
        }

        boolean often(int percent) {
            return r(100) < percent;
        }

        int call(String name, int... a) throws Exception {
            if (calls >= CALLS || failed) {
                return -1;
            }
            calls++;
            Object[] boxed = new Object[a.length];
            for (int i = 0; i < a.length; i++) {
                boxed[i] = a[i];
            }
            Method[] both = METHODS.get(name);
            Object got;
            try {
                got = both[0].invoke(book, boxed);
            } catch (java.lang.reflect.InvocationTargetException e) {
                got = e.getCause().toString();
            }
            Object due = both[1].invoke(plain, boxed);
            log.add(name + Arrays.toString(a) + " = " + got);
            int[] n = seen.computeIfAbsent(name, x -> new int[2]);
            n[0]++;
            if (due.equals(-1) || due.equals(false)) {
                n[1]++;
            }
            if (!got.equals(due)) {
                failed = true;
                wrong++;
                System.out.println("seed " + seed + ", call " + calls + ": " + name + Arrays.toString(a) + " answered " + got + ", due is " + due);
                if (System.getenv("LOG") != null) {
                    for (String s : log) {
                        System.out.println("   " + s);
                    }
                }
            }
            return due instanceof Boolean ? ((Boolean) due ? 1 : 0) : (Integer) due;
        }

        int any(int count) {
            if (often(4)) {
                return new int[] {-1, count, count + 1, 1000, Integer.MIN_VALUE, Integer.MAX_VALUE, -2, 100}[r(8)];
            }
            return count == 0 ? 0 : r(count);
        }

        int entry() {
            return any(plain.entries.size());
        }

        int handNo() {
            return any(plain.hands.size());
        }

        int lineNo() {
            int l = any(plain.lines.size());
            for (int i = 0; i < 4 && l >= 0 && l < plain.lines.size() && plain.lines.get(l).place < 0; i++) {
                l = any(plain.lines.size());
            }
            return l;
        }

        int vol() {
            return any(6);
        }

        int setVol() {
            int v = any(6);
            for (int i = 0; i < 6 && v >= 0 && v < 6 && plain.setDay[v] < 0; i++) {
                v = any(6);
            }
            return v;
        }

        int entryOf(int kind) {
            List<Integer> all = new ArrayList<>();
            for (int i = 0; i < plain.entries.size(); i++) {
                if (plain.entries.get(i).kind == kind) {
                    all.add(i);
                }
            }
            return all.isEmpty() || often(5) ? entry() : all.get(r(all.size()));
        }

        int[] heading() {
            StringBuilder s = new StringBuilder();
            int words = 1 + (often(40) ? 1 + r(2) : 0);
            for (int w = 0; w < words; w++) {
                if (w > 0) {
                    s.append(' ');
                }
                if (w < 2 && often(25)) {
                    s.append(new String[] {"the", "a", "an", "de"}[r(4)]);
                } else {
                    int n = 1 + r(3);
                    for (int i = 0; i < n; i++) {
                        s.append(letters.charAt(r(letters.length())));
                    }
                }
            }
            if (often(3)) {
                s.insert(r(s.length() + 1), new String[] {" ", "  ", "A", "-", "\0", "\u00e9", "{", "`", "/", ":"}[r(10)]);
            }
            if (often(2)) {
                s.insert(0, new String[] {"aeaeaeae ", "zaeaeaeae ", "abcdefgh ", "zz "}[r(4)]);
            }
            if (often(3)) {
                while (s.length() < 12) {
                    s.append(letters.charAt(r(letters.length())));
                }
            }
            s.setLength(Math.min(12, s.length()));
            while (s.length() < 12) {
                s.append('\0');
            }
            return ints(s.toString());
        }

        static int[] ints(String s) {
            int[] a = new int[s.length() / 4];
            for (int i = 0; i < s.length(); i++) {
                a[i / 4] = a[i / 4] << 8 | s.charAt(i) & 255;
            }
            return a;
        }

        String name() {
            return new String[] {"asked", "lines", "facts", "points", "field", "skill", "age", "volume", "late"}[r(9)];
        }

        String factor(int depth) {
            if (depth > 0 && often(20)) {
                return "(" + sum(depth - 1) + ")";
            }
            if (often(45)) {
                return name();
            }
            return Integer.toString(often(85) ? r(12) : often(90) ? r(100000) : r(200000));
        }

        String sum(int depth) {
            StringBuilder s = new StringBuilder(factor(depth));
            for (int i = r(3) * r(2); i > 0; i--) {
                s.append(often(30) ? " " : "").append("+-*/".charAt(r(4))).append(often(30) ? "\n" : "").append(factor(depth));
            }
            return s.toString();
        }

        String condition(int depth) {
            String s;
            if (depth > 0 && often(15)) {
                s = "not " + condition(depth - 1);
            } else if (depth > 0 && often(15)) {
                s = "[" + condition(depth - 1) + " ]";
            } else if (often(50)) {
                s = new String[] {"skill > 2", "late < 4", "volume < 7", "facts < 9", "lines = asked", "age > 1", "points < 2"}[r(7)];
            } else {
                s = sum(depth) + "<>=".charAt(r(3)) + sum(depth);
            }
            if (often(20)) {
                s = s + (often(50) ? " and " : " or ") + condition(Math.max(0, depth - 1));
            }
            return s;
        }

        String clause() {
            String k = new String[] {"short", "plain", "long"}[r(3)];
            switch (r(12)) {
                case 0:
                    return "skip " + new String[] {"the", "a", "an", "de", "abcdefgh", "e", "zz", "aeaeaeae"}[r(8)] + ";";
                case 1:
                    return "numbers " + (often(50) ? "first" : "last") + ";";
                case 2:
                    return "blanks " + (often(50) ? "count" : "pass") + " ;";
                case 3:
                    return "least " + k + " " + (often(50) ? Integer.toString(r(6)) : sum(2)) + ";";
                case 4:
                    return "most " + k + " " + (often(50) ? Integer.toString(r(14)) : sum(2)) + ";";
                case 5:
                case 6:
                    return "pay " + k + " " + sum(2) + ";";
                case 7:
                    return "write " + condition(2) + ";";
                case 8:
                    return "must " + (often(60) ? "lines > 0" : condition(2)) + ";";
                case 9:
                    return "owe " + sum(2) + ";";
                case 10:
                    return "owe late*" + r(9) + "+lines/" + (1 + r(4)) + " - volume;";
                default:
                    return deep();
            }
        }

        String deep() {
            StringBuilder s = new StringBuilder(often(50) ? "must " : "write ");
            StringBuilder close = new StringBuilder();
            int n = r(11);
            boolean sums = false;
            for (int i = 0; i < n; i++) {
                int what = sums ? 2 : r(3);
                if (what == 2) {
                    sums = true;
                    s.append('(');
                    close.insert(0, ')');
                } else if (what == 0) {
                    s.append("not ");
                } else {
                    s.append('[');
                    close.insert(0, ']');
                }
            }
            int at = close.indexOf("]");
            String tail = at < 0 ? close.toString() : close.substring(0, at);
            return s + "1" + tail + " < 2" + (at < 0 ? "" : close.substring(at)) + ";";
        }

        String text() {
            StringBuilder s = new StringBuilder();
            Set<String> sorts = new LinkedHashSet<>();
            for (int i = r(8); i > 0; i--) {
                String c = clause();
                String[] words = c.split(" ");
                String sort = words[0].equals("skip") ? c : "least most pay".contains(words[0]) ? words[0] + words[1] : words[0];
                if (sorts.add(sort) || often(5)) {
                    s.append(c).append(often(50) ? " " : "");
                }
            }
            if (often(12) && s.length() > 0) {
                int where = r(s.length());
                switch (r(3)) {
                    case 0:
                        s.deleteCharAt(where);
                        break;
                    case 1:
                        s.insert(where, ";,x9 ([<or\u00ff".charAt(r(10)));
                        break;
                    default:
                        s.setLength(where);
                }
            }
            return s.toString();
        }

        void newSheet() throws Exception {
            String s = text();
            call("end", 0);
            StringBuilder padded = new StringBuilder(s);
            while (padded.length() % 20 != 0) {
                padded.append(' ');
            }
            for (int i = 0; i < padded.length(); i += 20) {
                call("feed", ints(padded.substring(i, i + 20)));
            }
            call("end", s.length());
            call("fault");
            call("sheet");
        }

        void finish(int n) throws Exception {
            if (n < 0 || n >= plain.entries.size() || plain.entries.get(n).kind != 0) {
                return;
            }
            Plain.Entry e = plain.entries.get(n);
            if (e.lines(plain).size() >= e.asked || e.asked > 30 && often(70)) {
                return;
            }
            if (e.hand < 0 || !plain.hands.get(e.hand).lives) {
                for (int h = 0; h < plain.hands.size() && e.hand < 0; h++) {
                    call("give", n, r(plain.hands.size()));
                }
            }
            for (int i = 0; i < 60 && e.lines(plain).size() < e.asked && e.hand >= 0 && !failed && calls < CALLS; i++) {
                if (call("line", n, leans(), often(90) ? r(6) : r(31)) == -1 && often(30)) {
                    return;
                }
            }
        }

        int leans() {
            if (often(15)) {
                return -1;
            }
            if (often(30)) {
                return 100 + lineNo();
            }
            return often(90) ? r(6) : any(40);
        }

        void finishVolume() throws Exception {
            int v = r(6);
            for (int i = 0; i < plain.entries.size() && !failed && calls < CALLS; i++) {
                Plain.Entry e = plain.entries.get(i);
                if (plain.standing(e) == v && e.kind == 0 && !e.struck) {
                    finish(i);
                    if (e.lines(plain).size() < e.asked) {
                        call(often(60) ? "strike" : "later", i);
                    }
                }
            }
            call("set", v);
        }

        void readAll() throws Exception {
            for (int i = 0; i < plain.entries.size(); i++) {
                String[] asks = {"volume", "stales", "page", "promise", "ends", "takers"};
                call(asks[r(asks.length)], i);
            }
        }

        void play() throws Exception {
            int hands = 1 + r(9);
            for (int i = 0; i < hands; i++) {
                call("hand", often(70) ? 255 : 1 + r(255), 1 + r(20), -r(40001));
            }
            for (int i = 0; i < 6; i++) {
                if (often(80)) {
                    call("tell", i, r(4), r(9));
                }
            }
            int style = r(4);
            while (calls < CALLS && !failed) {
                step(style);
            }
        }

        void step(int style) throws Exception {
            int[] h;
            switch (r(60)) {
                case 0: case 1: case 2: case 3:
                    h = heading();
                    call("article", h[0], h[1], h[2], r(3) * 10000 + r(often(95) ? 8 : 10) * 1000 + (often(95) ? 1 + r(lengthy) : r(1000)));
                    break;
                case 4: case 5:
                    h = heading();
                    call("pointer", h[0], h[1], h[2], entry());
                    break;
                case 6:
                    h = heading();
                    int many = often(90) ? 1 + r(4) : r(6);
                    int of = 0;
                    for (int i = 0; i < Math.min(4, many); i++) {
                        of = of * 100 + Math.max(0, Math.min(99, entry()));
                    }
                    call("plate", h[0], h[1], h[2], often(95) ? of : -of, often(90) ? many : many + 1);
                    break;
                case 7:
                    call("points", entryOf(1), often(60) ? entryOf(1) : entry());
                    break;
                case 8:
                    if (often(40)) {
                        call("strike", entry());
                    }
                    break;
                case 9:
                    if (often(40)) {
                        call("later", entry());
                    }
                    break;
                case 10:
                    call("volume", entry());
                    break;
                case 11: case 12:
                    int v = vol();
                    for (int i = 0; i < 4; i++) {
                        call("at", v, often(90) ? i : any(60));
                    }
                    break;
                case 13: case 14:
                    call("why", entry(), entry());
                    break;
                case 15:
                    call("hand", often(90) ? r(256) : r(300), r(22), -r(40010) + r(10));
                    break;
                case 16:
                    if (often(40)) {
                        call("enemies", handNo(), handNo());
                    }
                    break;
                case 17: case 18:
                    call("give", entryOf(0), handNo());
                    break;
                case 19: case 20: case 21:
                    call("line", entryOf(0), leans(), often(95) ? r(31) : any(31));
                    break;
                case 22: case 23: case 24:
                    finish(entryOf(0));
                    break;
                case 25:
                    if (often(25)) {
                        call("die", handNo());
                    }
                    break;
                case 26:
                    call("takers", entryOf(0));
                    break;
                case 27: case 28: case 29:
                    call("tell", often(90) ? r(6) : any(40), often(90) ? r(4) : any(1000), r(9) - r(2));
                    break;
                case 30:
                    call("known", often(90) ? r(6) : any(40), day(), r(4) - 1);
                    break;
                case 31: case 32:
                    call("stale", lineNo(), day());
                    break;
                case 33:
                    call("stales", entry());
                    break;
                case 34:
                    call("mend", lineNo());
                    break;
                case 35: case 36:
                    call("erratum", lineNo(), often(95) ? r(4) : any(1000), often(95) ? r(4) : any(1000));
                    call("misses", any(plain.errata.size()));
                    break;
                case 37: case 38:
                    call("told", lineNo(), r(10) - 1);
                    break;
                case 39:
                    if (style > 0 && calls > 100) {
                        finishVolume();
                    }
                    break;
                case 40:
                    if (style == 1) {
                        call("set", vol());
                    }
                    break;
                case 41:
                    for (int i = 0; i < 3; i++) {
                        call("page", entry());
                    }
                    break;
                case 42:
                    call("promise", entryOf(1));
                    call("ends", entryOf(1));
                    break;
                case 43:
                    call("promised", handNo());
                    break;
                case 44:
                    call("subscribe", any(10), vol(), often(90) ? 1 + r(30) : any(1000));
                    break;
                case 45: case 46:
                    call("owed", any(10), setVol());
                    break;
                case 47: case 48:
                    int volume = vol();
                    if (plain.laidArticles(volume) <= 5 || often(2)) {
                        int s = often(95) ? 1 + r(often(80) ? 20 : 400) : any(401);
                        call("lengths", volume, s);
                        for (int i = 0; i < plain.entries.size() && i < 4; i++) {
                            int e = entryOf(0);
                            if (e >= 0 && e < plain.entries.size() && plain.standing(plain.entries.get(e)) == volume) {
                                call("length", e, s);
                            }
                        }
                        call("length", entryOf(0) == 0 ? -1 : -2, s);
                    }
                    break;
                case 49: case 50:
                    callGiving();
                    break;
                case 51:
                    for (int i = 0; i < 4; i++) {
                        call("index", often(95) ? r(6) : any(31), setVol(), any(3));
                    }
                    break;
                case 52: case 53:
                    call("steal", often(95) ? r(4) : any(1000));
                    if (often(5)) {
                        call("forget");
                    }
                    break;
                case 54:
                    int on = setVol();
                    call("thief", on, 0);
                    call("thief", on, 1);
                    call("thief", on, r(5) - 2);
                    break;
                case 55:
                    call("is", entry(), r(12) - 1);
                    call("is", entry(), r(10));
                    break;
                case 56:
                    call("count", often(50) ? r(10) : r(50) - 2);
                    break;
                case 57:
                    if (often(style == 3 ? 80 : 40)) {
                        newSheet();
                        call("force", any(plain.sheets.size()), often(60) ? -1 : vol());
                    }
                    if (often(20)) {
                        call("force", any(plain.sheets.size()), often(50) ? -1 : vol());
                    }
                    break;
                case 58:
                    call("rule", often(50) ? r(6) - r(2) : 10 * r(5) + r(4), vol(), day());
                    break;
                default:
                    if (often(50)) {
                        call("go", often(90) ? r(often(50) ? 4 : 200) : r(400) - 50);
                    } else if (often(50)) {
                        call("bound", any(5), any(26));
                    } else if (often(30)) {
                        readAll();
                    }
            }
        }

        int day() {
            return often(60) ? Math.max(0, plain.now - r(4)) : often(80) ? r(plain.now + 10) : any(2001);
        }

        void callGiving() throws Exception {
            int articles = 0;
            for (int i = r(8); i >= 0; i--) {
                int e = entryOf(0);
                if (e >= 0 && e < plain.entries.size() && e < 32 && (plain.isFree(e) || often(2))) {
                    articles |= 1 << e;
                }
            }
            int hands = 0;
            for (int i = r(8); i >= 0; i--) {
                int n = handNo();
                if (n >= 0 && n < plain.hands.size() && (plain.hands.get(n).lives || often(5))) {
                    hands |= 1 << n;
                }
            }
            int days = often(97) ? 1 + r(often(70) ? 8 : 400) : any(401);
            if (often(2)) {
                articles |= 1 << r(32);
            }
            if (often(2)) {
                hands |= 1 << r(32);
            }
            call("giving", articles, hands, days);
            for (int i = 0; i < 32; i++) {
                if ((articles >> i & 1) != 0 || often(1)) {
                    call("given", articles, hands, days, i);
                }
            }
        }
    }

    /** The document once more, in its slowest form. */
    static final class Plain {
        static final int NONE = -1;

        interface Sum {
            int at(Map<String, Integer> names);
        }

        interface Condition {
            boolean at(Map<String, Integer> names);
        }

        static final class Sheet {
            final Set<String> skips = new LinkedHashSet<>();
            final Map<String, Object> clauses = new HashMap<>();
        }

        static final class Put {
            int sheet;
            int volume;
            int day;
        }

        static final class Entry {
            int number;
            int kind;
            String heading;
            int k;
            int field;
            int asked;
            int to;
            boolean struck;
            boolean later;
            int set = NONE;
            int hand = NONE;
            int begins = NONE;

            List<Line> lines(Plain p) {
                List<Line> mine = new ArrayList<>();
                for (Line l : p.lines) {
                    if (l.entry == number) {
                        mine.add(l);
                    }
                }
                return mine;
            }
        }

        static final class Hand {
            int fields;
            int skill;
            int born;
            boolean lives = true;
            final Set<Integer> enemies = new TreeSet<>();
        }

        static final class Line {
            int number;
            int entry;
            int hand;
            int leans;
            int term;
            int keeps = NONE;
            int pay;
            int place = NONE;
        }

        static final class Fault extends Exception {
            final int place;

            Fault(int place) {
                this.place = place;
            }
        }

        int now = 0;
        String text = "";
        final List<Sheet> sheets = new ArrayList<>();
        final List<Put> puts = new ArrayList<>();
        final int[] last = {4, 9, 14, 19, 24, 25};
        final int[] setDay = {NONE, NONE, NONE, NONE, NONE, NONE};
        final List<List<Integer>> setOrder = new ArrayList<>();
        final List<Entry> entries = new ArrayList<>();
        final List<Hand> hands = new ArrayList<>();
        final List<Line> lines = new ArrayList<>();
        final List<int[]> tells = new ArrayList<>();
        final List<int[]> errata = new ArrayList<>();
        final Map<Integer, int[]> subscribers = new HashMap<>();
        final List<Integer> stolen = new ArrayList<>();

        Plain() {
            for (int v = 0; v < 6; v++) {
                setOrder.add(new ArrayList<>());
            }
        }

        // ---- texts

        static final class Token {
            String word;
            int place;
        }

        static List<Token> tokens(String text) {
            List<Token> all = new ArrayList<>();
            java.util.regex.Matcher m = java.util.regex.Pattern.compile("[a-z]+|[0-9]+|[ \n]+|[^ \n]", java.util.regex.Pattern.DOTALL).matcher(text);
            while (m.find()) {
                if (!m.group().matches("[ \n]+")) {
                    Token t = new Token();
                    t.word = m.group();
                    t.place = m.start();
                    all.add(t);
                }
            }
            return all;
        }

        static final class Parser {
            final List<Token> tokens;
            final int length;
            int next = 0;

            Parser(String text) {
                tokens = tokens(text);
                length = text.length();
            }

            String peek() {
                return next < tokens.size() ? tokens.get(next).word : "";
            }

            Fault fault() {
                return new Fault(next < tokens.size() ? tokens.get(next).place : length);
            }

            String take(String pattern) throws Fault {
                if (!peek().matches(pattern)) {
                    throw fault();
                }
                next++;
                return tokens.get(next - 1).word;
            }

            Sheet sheet() throws Fault {
                Sheet s = new Sheet();
                int skips = 0;
                while (next < tokens.size()) {
                    String c = peek();
                    if (!c.matches("skip|numbers|blanks|least|most|pay|write|must|owe") || s.clauses.containsKey(c)) {
                        throw fault();
                    }
                    next++;
                    String key = c;
                    if (c.equals("skip")) {
                        if (skips == 4) {
                            throw fault();
                        }
                        s.skips.add(take("[a-z]{1,8}"));
                        skips++;
                    } else if (c.equals("numbers")) {
                        s.clauses.put(c, take("first|last"));
                    } else if (c.equals("blanks")) {
                        s.clauses.put(c, take("count|pass"));
                    } else if (c.matches("write|must")) {
                        s.clauses.put(c, condition(0));
                    } else if (c.equals("owe")) {
                        s.clauses.put(c, sum(0));
                    } else {
                        String k = peek();
                        if (s.clauses.containsKey(c + " " + k)) {
                            throw fault();
                        }
                        key = c + " " + take("short|plain|long");
                        s.clauses.put(key, sum(0));
                    }
                    take(";");
                }
                return s;
            }

            Condition condition(int depth) throws Fault {
                Condition left = conjunction(depth);
                while (peek().equals("or")) {
                    next++;
                    Condition a = left;
                    Condition b = conjunction(depth);
                    left = n -> a.at(n) | b.at(n);
                }
                return left;
            }

            Condition conjunction(int depth) throws Fault {
                Condition left = basic(depth);
                while (peek().equals("and")) {
                    next++;
                    Condition a = left;
                    Condition b = basic(depth);
                    left = n -> a.at(n) & b.at(n);
                }
                return left;
            }

            Condition basic(int depth) throws Fault {
                if (peek().equals("not") || peek().equals("[")) {
                    if (depth == 8) {
                        throw fault();
                    }
                    if (take("not|\\[").equals("not")) {
                        Condition c = basic(depth + 1);
                        return n -> !c.at(n);
                    }
                    Condition c = condition(depth + 1);
                    take("\\]");
                    return c;
                }
                Sum a = sum(depth);
                String sign = take("[<>=]");
                Sum b = sum(depth);
                return n -> {
                    int d = Integer.compare(a.at(n), b.at(n));
                    return sign.equals("<") ? d < 0 : sign.equals(">") ? d > 0 : d == 0;
                };
            }

            static int brought(long v) {
                return v > 1000000 ? 1000000 : v < -1000000 ? -1000000 : (int) v;
            }

            Sum sum(int depth) throws Fault {
                Sum left = product(depth);
                while (peek().matches("[+-]")) {
                    int sign = take("[+-]").equals("+") ? 1 : -1;
                    Sum a = left;
                    Sum b = product(depth);
                    left = n -> brought((long) a.at(n) + sign * b.at(n));
                }
                return left;
            }

            Sum product(int depth) throws Fault {
                Sum left = factor(depth);
                while (peek().matches("[*/]")) {
                    boolean times = take("[*/]").equals("*");
                    Sum a = left;
                    Sum b = factor(depth);
                    left = n -> times ? brought((long) a.at(n) * b.at(n)) : b.at(n) == 0 ? 0 : a.at(n) / b.at(n);
                }
                return left;
            }

            Sum factor(int depth) throws Fault {
                if (peek().matches("[0-9]+")) {
                    if (new java.math.BigInteger(peek()).compareTo(java.math.BigInteger.valueOf(99999)) > 0) {
                        throw fault();
                    }
                    int v = Integer.parseInt(take("[0-9]+"));
                    return n -> v;
                }
                if (peek().equals("(")) {
                    if (depth == 8) {
                        throw fault();
                    }
                    next++;
                    Sum s = sum(depth + 1);
                    take("\\)");
                    return s;
                }
                String name = take("asked|lines|facts|points|field|skill|age|volume|late");
                return n -> n.getOrDefault(name, 0);
            }
        }

        public int feed(int a, int b, int c, int d, int e) {
            if (text.length() > 580) {
                return NONE;
            }
            StringBuilder s = new StringBuilder(text);
            for (int x : new int[] {a, b, c, d, e}) {
                for (int i = 3; i >= 0; i--) {
                    s.append((char) (x >> 8 * i & 255));
                }
            }
            text = s.toString();
            return text.length();
        }

        public boolean end(int n) {
            if (n < 0 || n > text.length()) {
                return false;
            }
            text = text.substring(0, n);
            return true;
        }

        public int fault() {
            try {
                new Parser(text).sheet();
                return NONE;
            } catch (Fault f) {
                return f.place;
            }
        }

        public int sheet() {
            try {
                Sheet s = new Parser(text).sheet();
                if (sheets.size() == 12) {
                    return NONE;
                }
                sheets.add(s);
                text = "";
                return sheets.size() - 1;
            } catch (Fault f) {
                return NONE;
            }
        }

        boolean isVol(int v) {
            return v >= 0 && v < 6;
        }

        public int force(int sheet, int volume) {
            if (sheet < 0 || sheet >= sheets.size() || puts.size() == 20) {
                return NONE;
            }
            if (volume != NONE && (!isVol(volume) || setDay[volume] != NONE)) {
                return NONE;
            }
            Put p = new Put();
            p.sheet = sheet;
            p.volume = volume;
            p.day = now;
            puts.add(p);
            return puts.size();
        }

        int sheetFor(String clause, int volume, int day) {
            int best = NONE;
            int bestDay = NONE;
            for (Put p : puts) {
                if (p.day <= day && p.day >= bestDay && (p.volume == NONE || p.volume == volume) && sheets.get(p.sheet).clauses.containsKey(clause)) {
                    best = p.sheet;
                    bestDay = p.day;
                }
            }
            return best;
        }

        Object clause(String clause, int volume, int day) {
            int s = sheetFor(clause, volume, day);
            return s == NONE ? null : sheets.get(s).clauses.get(clause);
        }

        int sumFor(String clause, int volume, int day, Map<String, Integer> names, int without) {
            Object c = clause(clause, volume, day);
            return c == null ? without : ((Sum) c).at(names);
        }

        boolean holds(String clause, int volume, Map<String, Integer> names) {
            Object c = clause(clause, volume, now);
            return c == null || ((Condition) c).at(names);
        }

        public int rule(int clause, int volume, int day) {
            String[] one = {"numbers", "blanks", "write", "must", "owe"};
            String[] ks = {"short", "plain", "long"};
            String name;
            if (clause >= 0 && clause < 5) {
                name = one[clause];
            } else if (clause >= 10 && clause <= 12) {
                name = "least " + ks[clause - 10];
            } else if (clause >= 20 && clause <= 22) {
                name = "most " + ks[clause - 20];
            } else if (clause >= 30 && clause <= 32) {
                name = "pay " + ks[clause - 30];
            } else {
                return NONE;
            }
            return !isVol(volume) || day < 0 || day > now ? NONE : sheetFor(name, volume, day);
        }

        public int go(int n) {
            if (n < 0 || n > 300) {
                return NONE;
            }
            now = Math.min(2000, now + n);
            return now;
        }

        public boolean bound(int volume, int letter) {
            if (volume < 0 || volume > 4 || letter < 0 || letter > 25 || count(6) != 0) {
                return false;
            }
            if (volume > 0 && letter < last[volume - 1] || volume < 4 && letter > last[volume + 1]) {
                return false;
            }
            last[volume] = letter;
            return true;
        }

        // ---- entries

        Entry at(int n) {
            return n >= 0 && n < entries.size() ? entries.get(n) : null;
        }

        Entry add(int kind, int a, int b, int c) {
            StringBuilder s = new StringBuilder();
            for (int x : new int[] {a, b, c}) {
                for (int i = 3; i >= 0; i--) {
                    s.append((char) (x >> 8 * i & 255));
                }
            }
            String heading = s.toString().replaceAll("\0+$", "");
            if (!heading.matches("[a-z0-9]+( [a-z0-9]+)*") || entries.size() == 60) {
                return null;
            }
            Entry e = new Entry();
            e.number = entries.size();
            e.kind = kind;
            e.heading = heading;
            entries.add(e);
            return e;
        }

        public int article(int a, int b, int c, int what) {
            if (what < 0 || what >= 30000 || what / 1000 % 10 > 7 || what % 1000 < 1 || what % 1000 > 200) {
                return NONE;
            }
            Entry e = add(0, a, b, c);
            if (e == null) {
                return NONE;
            }
            e.k = what / 10000;
            e.field = what / 1000 % 10;
            e.asked = what % 1000;
            return e.number;
        }

        public int pointer(int a, int b, int c, int to) {
            if (at(to) == null) {
                return NONE;
            }
            Entry e = add(1, a, b, c);
            if (e == null) {
                return NONE;
            }
            e.to = to;
            return e.number;
        }

        public int plate(int a, int b, int c, int of, int many) {
            if (of < 0 || many < 1 || many > 4) {
                return NONE;
            }
            String digits = String.format("%08d", of);
            if (digits.length() > 8) {
                return NONE;
            }
            Set<Integer> all = new TreeSet<>();
            for (int i = 0; i < 4; i++) {
                int n = Integer.parseInt(digits.substring(2 * i, 2 * i + 2));
                if (i < 4 - many ? n != 0 : at(n) == null || !all.add(n)) {
                    return NONE;
                }
            }
            Entry e = add(2, a, b, c);
            return e == null ? NONE : e.number;
        }

        public boolean points(int pointer, int to) {
            Entry e = at(pointer);
            if (e == null || e.kind != 1 || e.set != NONE || at(to) == null) {
                return false;
            }
            e.to = to;
            return true;
        }

        public boolean strike(int entry) {
            Entry e = at(entry);
            if (e == null || e.struck || later(e) || e.set != NONE) {
                return false;
            }
            return e.struck = true;
        }

        public boolean later(int entry) {
            Entry e = at(entry);
            if (e == null || e.struck || later(e) || e.set != NONE) {
                return false;
            }
            return e.later = true;
        }

        boolean later(Entry e) {
            return e.set == NONE && (e.later || setDay[keyVolume(e)] != NONE);
        }

        Set<String> skipped(int volume) {
            Set<String> all = new TreeSet<>();
            for (Put p : puts) {
                if (p.volume == NONE || p.volume == volume) {
                    all.addAll(sheets.get(p.sheet).skips);
                }
            }
            return all;
        }

        boolean numbersFirst(int volume) {
            Object c = clause("numbers", volume, now);
            return c == null || c.equals("first");
        }

        boolean blanksCount(int volume) {
            Object c = clause("blanks", volume, now);
            return c == null || c.equals("count");
        }

        /** The KEY, written so that plain texts compare as KEYS do. */
        String key(Entry e, Set<String> skips, boolean count, boolean first) {
            String h = e.heading;
            int blank = h.indexOf(' ');
            if (blank > 0 && skips.contains(h.substring(0, blank))) {
                h = h.substring(blank + 1);
            }
            if (!count) {
                h = h.replace(" ", "");
            }
            StringBuilder s = new StringBuilder();
            for (char c : h.toCharArray()) {
                s.append(c == ' ' || first || Character.isLetter(c) ? c : (char) (c + 200));
            }
            return s.toString();
        }

        String key(Entry e, int volume) {
            return key(e, skipped(volume), blanksCount(volume), numbersFirst(volume));
        }

        int keyVolume(Entry e) {
            char c = key(e, skipped(NONE), blanksCount(NONE), true).charAt(0);
            if (Character.isDigit(c)) {
                return numbersFirst(NONE) ? 0 : 5;
            }
            int v = 0;
            while (v < 5 && c - 'a' > last[v]) {
                v++;
            }
            return v;
        }

        int standing(Entry e) {
            return e.set != NONE ? e.set : later(e) ? 6 : keyVolume(e);
        }

        public int volume(int entry) {
            Entry e = at(entry);
            return e == null ? NONE : standing(e);
        }

        List<Integer> order(int volume) {
            if (setDay[volume] != NONE) {
                return setOrder.get(volume);
            }
            List<Integer> all = new ArrayList<>();
            for (Entry e : entries) {
                if (standing(e) == volume) {
                    all.add(e.number);
                }
            }
            all.sort((x, y) -> {
                int c = key(at(x), volume).compareTo(key(at(y), volume));
                return c != 0 ? c : x - y;
            });
            return all;
        }

        public int at(int volume, int k) {
            if (!isVol(volume) || k < 0) {
                return NONE;
            }
            List<Integer> all = order(volume);
            return k < all.size() ? all.get(k) : NONE;
        }

        public int why(int a, int b) {
            Entry x = at(a);
            Entry y = at(b);
            if (x == null || y == null || a == b) {
                return NONE;
            }
            Set<String> w = skipped(NONE);
            boolean c = blanksCount(NONE);
            boolean f = numbersFirst(NONE);
            if (key(x, w, c, f).equals(key(y, w, c, f))) {
                return 4;
            }
            boolean ahead = ahead(x, y, w, c, f);
            if (ahead != ahead(x, y, new TreeSet<>(), c, f)) {
                return 1;
            }
            if (ahead != ahead(x, y, w, !c, f)) {
                return 2;
            }
            return ahead != ahead(x, y, w, c, !f) ? 3 : 0;
        }

        boolean ahead(Entry x, Entry y, Set<String> w, boolean c, boolean f) {
            int d = key(x, w, c, f).compareTo(key(y, w, c, f));
            return d != 0 ? d < 0 : x.number < y.number;
        }

        // ---- hands

        Hand handAt(int n) {
            return n >= 0 && n < hands.size() ? hands.get(n) : null;
        }

        public int hand(int fields, int skill, int born) {
            if (fields < 1 || fields > 255 || skill < 1 || skill > 20 || born < -40000 || born > 0 || hands.size() == 12) {
                return NONE;
            }
            Hand h = new Hand();
            h.fields = fields;
            h.skill = skill;
            h.born = born;
            hands.add(h);
            return hands.size() - 1;
        }

        public boolean enemies(int a, int b) {
            if (handAt(a) == null || handAt(b) == null || a == b || handAt(a).enemies.contains(b)) {
                return false;
            }
            handAt(a).enemies.add(b);
            handAt(b).enemies.add(a);
            return true;
        }

        boolean done(Entry e) {
            return e.kind == 0 && e.lines(this).size() == e.asked;
        }

        Map<String, Integer> names(Entry e, int hand) {
            Map<String, Integer> n = new HashMap<>();
            n.put("asked", e.asked);
            n.put("lines", e.lines(this).size());
            Set<Integer> facts = new TreeSet<>();
            for (Line l : e.lines(this)) {
                if (l.leans >= 0 && l.leans < 40) {
                    facts.add(l.leans);
                }
            }
            n.put("facts", facts.size());
            int points = 0;
            for (Entry p : entries) {
                points += p.kind == 1 && p.to == e.number && !p.struck ? 1 : 0;
            }
            n.put("points", points);
            n.put("field", e.field);
            n.put("volume", standing(e));
            if (hand != NONE) {
                n.put("skill", handAt(hand).skill);
                n.put("age", (now - handAt(hand).born) / 365);
                int late = 0;
                for (Entry o : entries) {
                    late += o.kind == 0 && o.hand == hand && !done(o) && !o.struck ? 1 : 0;
                }
                n.put("late", late);
            }
            return n;
        }

        int rulesOf(Entry e) {
            return standing(e) == 6 ? NONE : standing(e);
        }

        boolean may(Entry e, int hand) {
            Hand h = handAt(hand);
            if (h == null || !h.lives || (h.fields & 1 << e.field) == 0 || e.struck || e.set != NONE) {
                return false;
            }
            for (Line l : e.lines(this)) {
                if (h.enemies.contains(l.hand)) {
                    return false;
                }
            }
            return holds("write", rulesOf(e), names(e, hand));
        }

        public boolean give(int article, int hand) {
            Entry e = at(article);
            if (e == null || e.kind != 0 || done(e) || !may(e, hand)) {
                return false;
            }
            e.hand = hand;
            return true;
        }

        static final String[] KS = {"short", "plain", "long"};

        public int line(int article, int leans, int term) {
            Entry e = at(article);
            if (e == null || e.kind != 0 || e.hand == NONE || !handAt(e.hand).lives || done(e) || e.struck || later(e)) {
                return NONE;
            }
            boolean onFact = leans >= 0 && leans < 40 && known(leans, now, 0) != NONE;
            boolean onLine = leans >= 100 && leans - 100 < lines.size();
            if (!onFact && !onLine && leans != NONE || term < 0 || term > 30 || lines.size() == 300) {
                return NONE;
            }
            Line l = new Line();
            l.number = lines.size();
            l.entry = article;
            l.hand = e.hand;
            l.leans = leans;
            l.term = term;
            l.keeps = onFact ? known(leans, now, 0) : NONE;
            l.pay = Math.max(0, sumFor("pay " + KS[e.k], rulesOf(e), now, names(e, e.hand), 1));
            lines.add(l);
            return l.number;
        }

        boolean hangs(Entry e) {
            return e.kind == 0 && e.hand != NONE && !handAt(e.hand).lives && !done(e) && !e.struck;
        }

        public int die(int hand) {
            if (handAt(hand) == null || !handAt(hand).lives) {
                return NONE;
            }
            handAt(hand).lives = false;
            int n = 0;
            for (Entry e : entries) {
                n += e.hand == hand && hangs(e) ? 1 : 0;
            }
            return n;
        }

        public int takers(int article) {
            Entry e = at(article);
            if (e == null || !hangs(e)) {
                return NONE;
            }
            int bits = 0;
            for (int h = 0; h < hands.size(); h++) {
                bits += may(e, h) ? 1 << h : 0;
            }
            return bits;
        }

        // ---- facts and lines

        public boolean tell(int fact, int value, int source) {
            if (fact < 0 || fact > 39 || value < 0 || value > 999 || source < 0) {
                return false;
            }
            tells.add(new int[] {fact, value, source, now});
            return true;
        }

        public int known(int fact, int day, int what) {
            int answer = NONE;
            if (day < 0 || day > 2000 || what < 0 || what > 1) {
                return NONE;
            }
            for (int[] t : tells) {
                if (t[0] == fact && t[3] <= day) {
                    answer = t[1 + what];
                }
            }
            return answer;
        }

        Line lineAt(int n) {
            return n >= 0 && n < lines.size() ? lines.get(n) : null;
        }

        boolean onFact(Line l) {
            return l.leans >= 0 && l.leans < 40;
        }

        int kept(Line l, int day) {
            int k = l.keeps;
            for (int[] e : errata) {
                if (e[0] == l.number && e[3] <= day && e[1] == k) {
                    k = e[2];
                }
            }
            return k;
        }

        public boolean stale(int line, int day) {
            Line l = lineAt(line);
            if (l == null || day < 0 || day > 2000) {
                return false;
            }
            if (onFact(l)) {
                return known(l.leans, day, 0) != kept(l, day);
            }
            return l.leans >= 100 && stale(l.leans - 100, day);
        }

        public int stales(int entry) {
            Entry e = at(entry);
            if (e == null) {
                return NONE;
            }
            int n = 0;
            for (Line l : e.lines(this)) {
                n += stale(l.number, now) ? 1 : 0;
            }
            return n;
        }

        public int mend(int line) {
            Line l = lineAt(line);
            if (l == null || !onFact(l) || at(l.entry).set != NONE) {
                return NONE;
            }
            return l.keeps = known(l.leans, now, 0);
        }

        public int erratum(int line, int is, int should) {
            Line l = lineAt(line);
            if (l == null || !onFact(l) || at(l.entry).set == NONE) {
                return NONE;
            }
            if (is < 0 || is > 999 || should < 0 || should > 999 || errata.size() == 60) {
                return NONE;
            }
            errata.add(new int[] {line, is, should, now});
            return errata.size() - 1;
        }

        public int misses(int erratum) {
            if (erratum < 0 || erratum >= errata.size()) {
                return NONE;
            }
            int[] it = errata.get(erratum);
            int k = lineAt(it[0]).keeps;
            for (int[] e : errata.subList(0, erratum)) {
                if (e[0] == it[0] && e[1] == k) {
                    k = e[2];
                }
            }
            return k == it[1] ? 0 : 1;
        }

        int pageOf(int place) {
            return place == NONE ? NONE : 1 + place / 40;
        }

        public int told(int line, int what) {
            Line l = lineAt(line);
            if (l == null || what < 0 || what > 7) {
                return NONE;
            }
            boolean f = onFact(l);
            int[] all = {l.keeps, f ? kept(l, 2000) : NONE, f ? l.leans : NONE, l.leans >= 100 ? l.leans - 100 : NONE, l.entry, pageOf(l.place), l.pay, l.hand};
            return all[what];
        }

        // ---- setting

        public int set(int volume) {
            if (!isVol(volume) || setDay[volume] != NONE) {
                return NONE;
            }
            List<Integer> all = order(volume);
            for (int n : all) {
                Entry e = at(n);
                if (e.kind == 0 && !e.struck && (!done(e) || !holds("must", volume, names(e, e.hand)))) {
                    return NONE;
                }
            }
            int place = 0;
            for (int n : all) {
                Entry e = at(n);
                e.set = volume;
                if (e.struck) {
                    continue;
                }
                e.begins = place;
                for (Line l : e.lines(this)) {
                    l.place = place++;
                }
                place += e.kind == 1 ? 1 : e.kind == 2 ? 10 : 0;
            }
            setDay[volume] = now;
            setOrder.set(volume, all);
            return place / 40 + (place % 40 > 0 ? 1 : 0);
        }

        public int page(int entry) {
            Entry e = at(entry);
            return e == null ? NONE : pageOf(e.begins);
        }

        List<Entry> way(Entry e) {
            List<Entry> all = new ArrayList<>();
            while (e.kind == 1) {
                if (all.contains(e)) {
                    return null;
                }
                all.add(e);
                e = at(e.to);
            }
            all.add(e);
            return all;
        }

        public int promise(int pointer) {
            Entry e = at(pointer);
            if (e == null || e.kind != 1 || e.struck || later(e)) {
                return NONE;
            }
            List<Entry> way = way(e);
            if (way == null) {
                return 3;
            }
            for (Entry w : way) {
                if (w.struck || later(w)) {
                    return 2;
                }
            }
            return way.get(way.size() - 1).set != NONE ? 0 : 1;
        }

        public int ends(int pointer) {
            Entry e = at(pointer);
            if (e == null || e.kind != 1 || way(e) == null) {
                return NONE;
            }
            return way(e).get(way(e).size() - 1).number;
        }

        public int promised(int hand) {
            if (handAt(hand) == null) {
                return NONE;
            }
            int n = 0;
            for (Entry e : entries) {
                if (e.kind == 1 && !e.struck && ends(e.number) != NONE) {
                    Entry last = at(ends(e.number));
                    n += hangs(last) && last.hand == hand ? 1 : 0;
                }
            }
            return n;
        }

        public boolean subscribe(int who, int volume, int price) {
            if (who < 0 || who > 9 || !isVol(volume) || price < 1 || price > 999 || subscribers.containsKey(who)) {
                return false;
            }
            subscribers.put(who, new int[] {volume, price});
            return true;
        }

        public int owed(int who, int volume) {
            if (!subscribers.containsKey(who) || !isVol(volume) || setDay[volume] == NONE || subscribers.get(who)[0] > volume) {
                return NONE;
            }
            int late = 0;
            int laid = 0;
            for (int n : setOrder.get(volume)) {
                Entry e = at(n);
                late += e.struck ? 1 : 0;
                laid += e.struck ? 0 : e.kind == 0 ? e.asked : e.kind == 1 ? 1 : 10;
            }
            Map<String, Integer> names = new HashMap<>();
            names.put("late", late);
            names.put("lines", laid);
            names.put("volume", volume);
            int owe = sumFor("owe", volume, setDay[volume], names, 0);
            return owe < 0 ? 0 : Math.min(owe, subscribers.get(who)[1]);
        }

        // ---- lengths: every sum of lines is tried

        int laidArticles(int volume) {
            int n = 0;
            for (Entry e : entries) {
                n += e.kind == 0 && standing(e) == volume && !e.struck ? 1 : 0;
            }
            return n;
        }

        int[] fit(int volume, int s) {
            if (!isVol(volume) || setDay[volume] != NONE || s < 1 || s > 400) {
                return null;
            }
            int fixed = 0;
            List<Entry> all = new ArrayList<>();
            for (int n : order(volume)) {
                Entry e = at(n);
                if (e.struck) {
                    continue;
                }
                fixed += e.kind == 1 ? 1 : e.kind == 2 ? 10 : 0;
                if (e.kind == 0) {
                    all.add(e);
                }
            }
            int n = all.size();
            int[][] ends = new int[n][];
            int longest = 0;
            for (int i = 0; i < n; i++) {
                Entry e = all.get(i);
                int most = Math.max(1, Math.min(400, sumFor("most " + KS[e.k], volume, now, names(e, e.hand), 400)));
                int least = Math.max(1, Math.min(400, sumFor("least " + KS[e.k], volume, now, names(e, e.hand), 1)));
                ends[i] = new int[] {Math.min(least, most), most};
                longest += most;
            }
            int far = 1000000;
            int[][] best = new int[n + 1][longest + 1];
            Arrays.fill(best[n], far);
            best[n][0] = 0;
            for (int i = n - 1; i >= 0; i--) {
                Arrays.fill(best[i], far);
                for (int sum = 0; sum <= longest; sum++) {
                    for (int length = ends[i][0]; length <= ends[i][1] && length <= sum; length++) {
                        best[i][sum] = Math.min(best[i][sum], Math.abs(length - all.get(i).asked) + best[i + 1][sum - length]);
                    }
                }
            }
            int least = far;
            int total = NONE;
            for (int sum = 0; sum <= longest; sum++) {
                if ((sum + fixed) % s == 0 && best[0][sum] < least) {
                    least = best[0][sum];
                    total = sum;
                }
            }
            if (total == NONE) {
                return null;
            }
            int[] answer = new int[61];
            answer[60] = least;
            int left = total;
            for (int i = 0; i < n; i++) {
                Entry e = all.get(i);
                int base = Math.max(ends[i][0], Math.min(ends[i][1], e.asked));
                int chosen = NONE;
                for (int length = ends[i][0]; length <= ends[i][1] && length <= left; length++) {
                    boolean can = Math.abs(length - e.asked) + best[i + 1][left - length] == best[i][left];
                    if (can && (chosen == NONE || Math.abs(length - base) > Math.abs(chosen - base))) {
                        chosen = length;
                    }
                }
                answer[e.number] = chosen;
                left -= chosen;
            }
            return answer;
        }

        public int lengths(int volume, int s) {
            int[] fit = fit(volume, s);
            return fit == null ? NONE : fit[60];
        }

        public int length(int article, int s) {
            Entry e = at(article);
            if (e == null || e.kind != 0 || e.struck || later(e)) {
                return NONE;
            }
            int[] fit = fit(standing(e), s);
            return fit == null ? NONE : fit[article];
        }

        // ---- giving: every way is tried

        boolean isFree(int n) {
            Entry e = at(n);
            return e != null && e.kind == 0 && !done(e) && !e.struck && e.set == NONE && (e.hand == NONE || !handAt(e.hand).lives);
        }

        List<Integer> bits(int set) {
            List<Integer> all = new ArrayList<>();
            for (int i = 0; i < 32; i++) {
                if ((set >>> i & 1) != 0) {
                    all.add(i);
                }
            }
            return all;
        }

        int[] bestWay;
        int bestMany;
        int bestLack;

        boolean tryAll(int articles, int hands, int days) {
            List<Integer> as = bits(articles);
            List<Integer> hs = bits(hands);
            if (as.isEmpty() || as.size() > 7 || hs.isEmpty() || hs.size() > 6 || days < 1 || days > 400) {
                return false;
            }
            for (int a : as) {
                if (a >= 30 || !isFree(a)) {
                    return false;
                }
            }
            for (int h : hs) {
                if (handAt(h) == null || !handAt(h).lives) {
                    return false;
                }
            }
            boolean[][] may = new boolean[as.size()][hs.size()];
            int[] lack = new int[as.size()];
            for (int i = 0; i < as.size(); i++) {
                lack[i] = at(as.get(i)).asked - at(as.get(i)).lines(this).size();
                for (int j = 0; j < hs.size(); j++) {
                    may[i][j] = may(at(as.get(i)), hs.get(j));
                }
            }
            int[] skill = new int[hs.size()];
            for (int j = 0; j < hs.size(); j++) {
                skill[j] = handAt(hs.get(j)).skill;
            }
            bestMany = NONE;
            int[] way = new int[as.size()];
            Arrays.fill(way, hs.size());
            extend(0, way, new int[hs.size()], lack, may, skill, days);
            return true;
        }

        void extend(int i, int[] way, int[] load, int[] lack, boolean[][] may, int[] skill, int days) {
            if (i == way.length) {
                int many = 0;
                int sum = 0;
                for (int x = 0; x < i; x++) {
                    many += way[x] < load.length ? 1 : 0;
                    sum += way[x] < load.length ? lack[x] : 0;
                }
                if (many > bestMany || many == bestMany && sum < bestLack) {
                    bestMany = many;
                    bestLack = sum;
                    bestWay = way.clone();
                }
                return;
            }
            for (int h = 0; h < load.length; h++) {
                if (may[i][h] && (load[h] + lack[i] + skill[h] - 1) / skill[h] <= days) {
                    way[i] = h;
                    load[h] += lack[i];
                    extend(i + 1, way, load, lack, may, skill, days);
                    load[h] -= lack[i];
                }
            }
            way[i] = load.length;
            extend(i + 1, way, load, lack, may, skill, days);
        }

        public int giving(int articles, int hands, int days) {
            return tryAll(articles, hands, days) ? bestMany : NONE;
        }

        public int given(int articles, int hands, int days, int article) {
            if (!tryAll(articles, hands, days) || !bits(articles).contains(article)) {
                return NONE;
            }
            int h = bestWay[bits(articles).indexOf(article)];
            return h == bits(hands).size() ? NONE : bits(hands).get(h);
        }

        // ---- index, thief

        List<Line> laid(int volume) {
            List<Line> all = new ArrayList<>();
            for (Line l : lines) {
                if (at(l.entry).set == volume && l.place != NONE) {
                    all.add(l);
                }
            }
            all.sort((x, y) -> x.place - y.place);
            return all;
        }

        public int index(int term, int volume, int k) {
            if (!isVol(volume) || setDay[volume] == NONE || k < 0) {
                return NONE;
            }
            Set<Integer> pages = new TreeSet<>();
            for (Line l : laid(volume)) {
                if (l.term == term) {
                    pages.add(pageOf(l.place));
                }
            }
            return k < pages.size() ? new ArrayList<>(pages).get(k) : NONE;
        }

        public int steal(int number) {
            if (number < 0 || number > 999 || stolen.size() == 30) {
                return NONE;
            }
            stolen.add(number);
            return stolen.size();
        }

        public int forget() {
            int n = stolen.size();
            stolen.clear();
            return n;
        }

        public int thief(int volume, int what) {
            if (!isVol(volume) || setDay[volume] == NONE || what < 0 || what > 1) {
                return NONE;
            }
            List<Line> row = laid(volume);
            row.removeIf(l -> !onFact(l));
            return lay(0, 0, row, new HashMap<>())[what];
        }

        int[] lay(int i, int j, List<Line> row, Map<Integer, int[]> known) {
            int id = i * 1000 + j;
            if (known.containsKey(id)) {
                return known.get(id);
            }
            int[] best = {1000000, 0};
            if (i == stolen.size() && j == row.size()) {
                best = new int[] {0, 0};
            }
            if (i < stolen.size()) {
                best = better(best, lay(i + 1, j, row, known), 1, 0);
            }
            if (j < row.size()) {
                best = better(best, lay(i, j + 1, row, known), 1, 0);
            }
            if (i < stolen.size() && j < row.size()) {
                Line l = row.get(j);
                boolean like = stolen.get(i) == l.keeps;
                boolean wrong = known(l.leans, now, 0) != l.keeps;
                best = better(best, lay(i + 1, j + 1, row, known), like ? 0 : 1, like && wrong ? 1 : 0);
            }
            known.put(id, best);
            return best;
        }

        int[] better(int[] best, int[] rest, int changes, int shared) {
            int c = rest[0] + changes;
            int s = rest[1] + shared;
            return c < best[0] || c == best[0] && s > best[1] ? new int[] {c, s} : best;
        }

        public int is(int entry, int what) {
            Entry e = at(entry);
            if (e == null || what < 0 || what > 9) {
                return NONE;
            }
            if (e.kind != 0 && (what >= 1 && what <= 3 || what == 5 || what == 6 || what == 8)) {
                return NONE;
            }
            boolean set = e.set != NONE || setDay[keyVolume(e)] != NONE;
            int[] all = {e.kind, e.k, e.field, e.asked, e.lines(this).size(), e.hand, done(e) ? 1 : 0,
                e.struck ? 1 : later(e) ? 2 : 0, hangs(e) ? 1 : 0, set ? 1 : 0};
            return all[what];
        }

        public int count(int what) {
            int bits = 0;
            int pay = 0;
            for (int v = 0; v < 6; v++) {
                bits += setDay[v] != NONE ? 1 << v : 0;
            }
            for (Line l : lines) {
                pay += what < 10 || l.hand == what - 10 ? l.pay : 0;
            }
            int[] all = {now, entries.size(), hands.size(), lines.size(), sheets.size(), errata.size(), bits, text.length(), pay};
            if (what >= 0 && what <= 8) {
                return all[what];
            }
            if (what >= 10 && what < 10 + hands.size()) {
                return pay;
            }
            return what >= 30 && what < 30 + hands.size() ? hands.get(what - 30).lives ? 1 : 0 : NONE;
        }
    }
}
