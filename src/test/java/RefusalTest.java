import java.util.ArrayList;
import java.util.List;
import java.util.Set;
import java.util.TreeSet;

/**
 * What is refused changes nothing: a book that got a refused call answers all that can be asked, at
 * once and after more calls, as its twin does which never got it.
 */
public final class RefusalTest {
    private static final int NONE = Book.NONE;
    private static final int FAR = Integer.MAX_VALUE;
    private static final int LOW = Integer.MIN_VALUE;
    private static final int[] NO_NUMBER = {-1, -2, FAR, LOW, LOW + 1, 1000};
    private static final Set<String> NEVER_REFUSED = Set.of("fault", "forget");
    private static final Sentences DOC = new Sentences("(its FACT is KNOWN otherwise NOW).", "The constants:");
    private static final Set<String> REFUSED = new TreeSet<>();

    public static void main(String[] args) {
        DOC.says("What is refused changes nothing.");
        ofNewBook();
        Scene half = new Scene("halfway", halfway());
        textsAndRules(half);
        makingEntries(half);
        changingEntries(half);
        askingEntries(half);
        handsAndLines(half);
        factsAndErrata(half);
        settingAndPromises(half);
        subscribersAndLengths(half);
        giving(half);
        thievesAndCounts(half);
        ofFullBooks();
        for (String name : Book.names()) {
            boolean refused = REFUSED.contains(name) || NEVER_REFUSED.contains(name);
            DOC.due("a refused " + name, refused ? 1 : 0, 1);
        }
        DOC.close();
    }

    /** A state, and what its twin answers. */
    private static final class Scene {
        final String name;
        final Book state;
        final List<Book.Call> more;
        final List<Book.Call> questions;
        final int[] answers;
        final int[] later;

        Scene(String name, Book state) {
            this.name = name;
            this.state = state;
            more = moreCalls();
            questions = questions(state);
            answers = answers(null, List.of());
            later = answers(null, more);
        }

        /** All questions, asked after the calls; of more books, as one may be asked 512 times alone. */
        private int[] answers(Book.Call refused, List<Book.Call> calls) {
            int[] all = new int[calls.size() + questions.size()];
            Book book = null;
            for (int i = 0; i < questions.size(); i++) {
                if (book == null || book.callsMade() == Book.MOST_CALLS) {
                    book = state.again();
                    if (refused != null) {
                        book.ask(refused);
                    }
                    for (int c = 0; c < calls.size(); c++) {
                        all[c] = book.ask(calls.get(c));
                    }
                }
                all[calls.size() + i] = book.ask(questions.get(i));
            }
            return all;
        }

        /** The call is refused, and changes nothing. */
        void refuses(String call, int... args) {
            Book.Call refused = new Book.Call(call, args);
            int answer = state.again().ask(refused);
            DOC.due(name + ", " + refused + " is refused", answer, ofTruth(call) ? 0 : NONE);
            compare(refused, List.of(), answers(refused, List.of()), answers);
            compare(refused, more, answers(refused, more), later);
            REFUSED.add(call);
        }

        private void compare(Book.Call refused, List<Book.Call> calls, int[] got, int[] want) {
            for (int i = 0; i < want.length; i++) {
                if (got[i] != want[i]) {
                    Book.Call asked = i < calls.size() ? calls.get(i) : questions.get(i - calls.size());
                    DOC.due(name + ", " + asked + " after " + refused, got[i], want[i]);
                    return;
                }
            }
        }

        /** The call is taken as it stands, and refused with each of the values in one place. */
        void refusesAt(int place, int[] values, String call, int... args) {
            int answer = state.again().ask(call, args);
            boolean taken = answer != NONE && (answer != 0 || !ofTruth(call));
            DOC.due(name + ", " + new Book.Call(call, args) + " is taken", taken ? 1 : 0, 1);
            for (int value : values) {
                int[] other = args.clone();
                other[place] = value;
                refuses(call, other);
            }
        }

        void refusesAt(int place, String call, int... args) {
            refusesAt(place, NO_NUMBER, call, args);
        }
    }

    private static boolean ofTruth(String call) {
        return Set.of("end", "bound", "points", "strike", "later", "enemies", "give", "tell", "stale", "subscribe").contains(call);
    }

    private static int[] these(int... values) {
        return values;
    }

    // ---- what can be asked

    private static void add(List<Book.Call> all, String name, int... args) {
        all.add(new Book.Call(name, args));
    }

    private static List<Book.Call> questions(Book state) {
        Book b = state.again();
        int now = b.ask("count", 0);
        int entries = b.ask("count", 1) + 2;
        int lines = b.ask("count", 3) + 2;
        List<Book.Call> all = new ArrayList<>();
        add(all, "fault");
        for (int what = -1; what <= 43; what++) {
            add(all, "count", what);
        }
        askVolumes(all, entries, now);
        askEntries(all, entries);
        askLines(all, lines, now);
        for (int fact = 0; fact < 40; fact++) {
            for (int day : new int[] {0, now, 2000}) {
                add(all, "known", fact, day, 0);
                add(all, "known", fact, day, 1);
            }
        }
        for (int i = 0; i < 61; i++) {
            add(all, "misses", i);
        }
        for (int hand = 0; hand < 13; hand++) {
            add(all, "promised", hand);
        }
        for (int who = 0; who < 10; who++) {
            for (int volume = 0; volume < 6; volume++) {
                add(all, "owed", who, volume);
            }
        }
        return all;
    }

    private static void askVolumes(List<Book.Call> all, int entries, int now) {
        for (int volume = 0; volume < 6; volume++) {
            for (int clause = 0; clause < 33; clause++) {
                if (clause < 5 || clause >= 10 && clause % 10 < 3) {
                    add(all, "rule", clause, volume, now);
                    add(all, "rule", clause, volume, 0);
                }
            }
            for (int k = 0; k < entries; k++) {
                add(all, "at", volume, k);
            }
            for (int s : new int[] {1, 7, 40}) {
                add(all, "lengths", volume, s);
            }
            for (int term = 0; term < 8; term++) {
                add(all, "index", term, volume, 0);
                add(all, "index", term, volume, 1);
            }
            add(all, "thief", volume, 0);
            add(all, "thief", volume, 1);
        }
    }

    private static void askEntries(List<Book.Call> all, int entries) {
        for (int e = 0; e < entries; e++) {
            for (String name : new String[] {"volume", "page", "stales", "promise", "ends", "takers"}) {
                add(all, name, e);
            }
            for (int what = 0; what < 10; what++) {
                add(all, "is", e, what);
            }
            add(all, "length", e, 7);
            add(all, "why", e, e + 1);
            add(all, "why", 0, e);
            for (int days : new int[] {1, 3, 400}) {
                add(all, "giving", 1 << e, 1, days);
                add(all, "given", 1 << e | 1 << e + 1, 3, days, e);
            }
        }
    }

    private static void askLines(List<Book.Call> all, int lines, int now) {
        for (int line = 0; line < lines; line++) {
            for (int what = 0; what < 8; what++) {
                add(all, "told", line, what);
            }
            for (int day : new int[] {0, now, 2000}) {
                add(all, "stale", line, day);
            }
        }
    }

    /** Calls that go on from any state: what a refused one left behind would show in some of them. */
    private static List<Book.Call> moreCalls() {
        Book b = new Book();
        b.ask("feed", 0x20323b62, 0x6c616e6b, 0x73207061, 0x73733b20, 0x20202020);
        b.ask("fault");
        b.ask("sheet");
        b.ask("force", 0, NONE);
        b.ask("force", 1, 2);
        b.text("skip an;owe 3;");
        b.ask("sheet");
        b.ask("force", 3, NONE);
        b.ask("force", 11, 3);
        b.ask("bound", 2, 13);
        b.article("an elk", 10002);
        b.pointer("fit", 0);
        b.plate("gas", 0, 1);
        b.ask("hand", 255, 9, -99);
        b.ask("enemies", 0, 1);
        b.ask("enemies", 1, 2);
        for (int i = 0; i < 14; i++) {
            b.ask("give", i, i % 6);
        }
        b.ask("give", 19, 2);
        b.ask("tell", 0, 5, 5);
        for (int i = 0; i < 14; i++) {
            b.ask("line", i, 0, 4);
        }
        b.ask("line", 6, 103, 6);
        b.ask("go", 2);
        b.ask("tell", 1, 6, 6);
        b.ask("mend", 3);
        b.ask("erratum", 0, 8, 9);
        b.ask("points", 9, 0);
        b.ask("strike", 7);
        b.ask("later", 12);
        b.ask("die", 1);
        b.ask("subscribe", 4, 0, 77);
        b.ask("steal", 8);
        b.ask("set", 2);
        b.ask("set", 4);
        return b.calls();
    }

    // ---- a new book

    private static void ofNewBook() {
        Scene s = new Scene("new", new Book());
        s.refusesAt(0, these(-1, 1, FAR, LOW), "end", 0);
        s.refuses("force", 0, NONE);
        s.refuses("force", NONE, NONE);
        s.refuses("force", 0, 0);
        s.refusesAt(0, these(-1, 5, 6, FAR, LOW), "bound", 1, 9);
        s.refusesAt(1, these(3, 15, -1, 26, FAR, LOW), "bound", 1, 9);
        s.refusesAt(1, these(18, 26, LOW), "bound", 4, 25);
        s.refusesAt(1, these(10, -1), "bound", 0, 0);
        String[] ofOne = {"strike", "later", "volume", "die", "takers", "stales", "mend", "misses", "page", "promise", "ends", "promised"};
        for (String name : ofOne) {
            s.refuses(name, 0);
            s.refuses(name, NONE);
        }
        String[] ofTwo = {"points", "at", "why", "enemies", "give", "stale", "told", "owed", "length", "thief", "is"};
        for (String name : ofTwo) {
            s.refuses(name, 0, 0);
            s.refuses(name, 0, 1);
            s.refuses(name, NONE, NONE);
        }
        s.refuses("pointer", 'a' << 24, 0, 0, 0);
        s.refuses("plate", 'a' << 24, 0, 0, 0, 1);
        s.refuses("line", 0, NONE, 0);
        s.refuses("known", 0, 0, 0);
        s.refuses("rule", 0, 0, 0);
        s.refuses("erratum", 0, 0, 0);
        s.refuses("giving", 1, 1, 1);
        s.refuses("given", 1, 1, 1, 0);
        s.refuses("index", 0, 0, 0);
    }

    // ---- a book in the middle of everything

    /** VOLUME 0 is SET; ENTRIES, HANDS and LINES are of every sort that a call may be refused for. */
    private static Book halfway() {
        Book b = new Book();
        b.ask("go", 3);
        b.forAll("skip the;numbers last;pay plain 3+asked+100*facts;write skill>1;least short 2;most short 9;owe late+lines;must asked<3;");
        b.forVolume("blanks pass;most plain asked+2;", 1);
        b.sheet("numbers first;skip an;blanks count;");
        b.writer(5);
        b.writer(3);
        b.ask("hand", 2, 9, -400);
        b.writer(1);
        b.writer(7);
        b.ask("enemies", 0, 2);
        b.ask("enemies", 0, 4);
        for (int fact = 0; fact < 4; fact++) {
            b.ask("tell", fact, 5 + fact, fact);
        }
        entriesOfHalfway(b);
        linesOfHalfway(b);
        b.ask("strike", 4);
        b.ask("later", 5);
        b.ask("points", 10, 10);
        b.ask("strike", 16);
        b.ask("later", 17);
        b.ask("die", 4);
        b.ask("set", 0);
        b.article("cow", 2);
        b.article("6 in", 1002);
        b.ask("give", 19, 0);
        b.ask("go", 2);
        b.ask("tell", 0, 8, 8);
        b.ask("erratum", 0, 5, 8);
        b.ask("erratum", 2, 1, 2);
        b.ask("subscribe", 0, 0, 50);
        b.ask("subscribe", 1, 1, 9);
        b.ask("subscribe", 2, 5, 999);
        for (int number : new int[] {5, 6, 9}) {
            b.ask("steal", number);
        }
        b.text("owe 1+");
        return b;
    }

    private static void entriesOfHalfway(Book b) {
        b.article("cat", 10002);
        b.article("the dog", 1);
        b.pointer("ant", 0);
        b.plate("bee", 100, 2);
        b.article("ape", 5);
        b.article("ass", 5);
        b.article("fox", 10010);
        b.article("gnu", 6);
        b.pointer("hen", 7);
        b.pointer("ibex", 8);
        b.pointer("jay", 9);
        b.article("kea", 1);
        b.article("7 up", 1001);
        b.article("the 8", 20003);
        b.pointer("zoo", 5);
        b.article("pig", 3);
        b.pointer("qua", 0);
        b.pointer("rat", 0);
    }

    private static void linesOfHalfway(Book b) {
        int[][] given = {{0, 1}, {1, 1}, {4, 0}, {5, 0}, {6, 1}, {7, 4}, {11, 0}, {15, 0}};
        for (int[] row : given) {
            b.ask("give", row[0], row[1]);
        }
        int[][] lines = {{0, 0, 1}, {0, 100, 1}, {1, 1, 2}, {6, 0, 3}, {6, 103, 3}, {6, NONE, 0}, {7, 2, 1}, {11, 3, 0},
            {15, 1, 0}, {15, 2, 0}, {15, 3, 0}};
        for (int[] row : lines) {
            b.ask("line", row);
        }
    }

    private static void textsAndRules(Scene s) {
        s.refusesAt(0, these(-1, 7, 600, FAR, LOW), "end", 6);
        s.refuses("sheet");
        s.refusesAt(0, these(-1, 3, 12, FAR, LOW), "force", 2, NONE);
        s.refusesAt(1, these(0, 6, -2, FAR, LOW, 32), "force", 2, 1);
        s.refusesAt(0, these(-1, 1, 5, 11, 13, 40, FAR, LOW), "rule", 0, 0, 5);
        s.refusesAt(1, these(-1, 6, FAR, LOW), "rule", 0, 0, 5);
        s.refusesAt(2, these(-1, 2, 6, FAR, LOW), "rule", 0, 0, 5);
        s.refusesAt(0, these(-1, 301, FAR, LOW), "go", 300);
        s.refuses("bound", 1, 9);
        s.refuses("bound", 2, 14);
        s.refuses("bound", 5, 25);
    }

    private static void makingEntries(Scene s) {
        int x = 'x' << 24;
        int[] noWhat = {0, 201, 8001, 30001, -1, FAR, LOW};
        int[] noFour = {0, 0x20610000, 0x61200000, 0x61202061, 0x61006100, 0x41000000, -1, FAR, LOW};
        s.refusesAt(3, noWhat, "article", x, 0, 0, 27200);
        s.refusesAt(0, noFour, "article", x, 0, 0, 1);
        s.refusesAt(1, these(1, 'a' << 24, -1), "article", x, 0, 0, 1);
        s.refusesAt(2, these(1, 'a' << 24, -1), "article", x, 0, 0, 1);
        s.refusesAt(3, these(-1, 20, 60, FAR, LOW), "pointer", x, 0, 0, 19);
        s.refusesAt(0, noFour, "pointer", x, 0, 0, 0);
        s.refusesAt(3, these(-1, 20, 101, 10203, FAR, LOW), "plate", x, 0, 0, 102, 2);
        s.refusesAt(4, these(0, 1, 4, 5, -1, FAR, LOW), "plate", x, 0, 0, 102, 2);
        s.refusesAt(0, noFour, "plate", x, 0, 0, 0, 1);
    }

    private static void changingEntries(Scene s) {
        s.refusesAt(0, these(0, 2, 3, 6, 20, -1, FAR, LOW), "points", 14, 0);
        s.refusesAt(0, these(2, 3, 20), "points", 14, 1);
        s.refusesAt(1, these(20, 60, -1, FAR, LOW), "points", 14, 19);
        int[] no = {0, 1, 2, 3, 4, 5, 16, 17, 18, 20, -1, FAR, LOW};
        s.refusesAt(0, no, "strike", 6);
        s.refusesAt(0, no, "later", 6);
    }

    private static void askingEntries(Scene s) {
        int[] noEntry = {20, 60, -1, FAR, LOW};
        s.refusesAt(0, noEntry, "volume", 19);
        s.refusesAt(0, these(6, -1, FAR, LOW), "at", 1, 0);
        s.refusesAt(1, these(5, 60, -1, FAR, LOW), "at", 0, 4);
        s.refusesAt(0, these(1, 20, -1, FAR, LOW), "why", 0, 1);
        s.refusesAt(1, these(0, 20, -1, FAR, LOW), "why", 0, 1);
        s.refusesAt(0, noEntry, "stales", 19);
        s.refusesAt(0, these(4, 5, 6, 18, 20, -1, FAR, LOW), "page", 0);
        s.refusesAt(0, noEntry, "is", 18, 3);
        s.refusesAt(0, these(2, 3), "is", 18, 3);
        s.refusesAt(1, these(10, -1, FAR, LOW), "is", 0, 9);
    }

    private static void handsAndLines(Scene s) {
        s.refusesAt(0, these(0, 256, -1, FAR, LOW), "hand", 255, 20, 0);
        s.refusesAt(1, these(0, 21, -1, FAR, LOW), "hand", 255, 20, 0);
        s.refusesAt(2, these(1, -40001, FAR, LOW), "hand", 255, 20, -40000);
        s.refusesAt(0, these(1, 5, -1, FAR, LOW), "enemies", 0, 1);
        s.refusesAt(1, these(0, 2, 4, 5, -1, FAR, LOW), "enemies", 0, 1);
        s.refusesAt(0, these(0, 1, 2, 3, 4, 11, 15, 20, -1, FAR, LOW), "give", 6, 0);
        s.refusesAt(1, these(2, 3, 4, 5, -1, FAR, LOW), "give", 6, 0);
        s.refusesAt(1, these(0, 2, 3, 4), "give", 7, 1);
        s.refusesAt(0, these(0, 2, 3, 4, 5, 7, 11, 12, 15, 18, 20, -1, FAR, LOW), "line", 6, 0, 1);
        s.refusesAt(1, these(4, 39, 40, 99, 111, -2, FAR, LOW, LOW + 100), "line", 6, 110, 1);
        s.refusesAt(2, these(31, -1, FAR, LOW), "line", 6, NONE, 30);
        s.refusesAt(2, these(31, -1), "line", 6, 3, 30);
        s.refusesAt(1, these(4, 40, 111), "line", 19, 0, 1);
        s.refusesAt(2, these(31, -1), "line", 19, 110, 1);
        s.refusesAt(0, these(4, 5, 12, -1, FAR, LOW), "die", 3);
        s.refusesAt(0, these(0, 2, 3, 6, 12, 20, -1, FAR, LOW), "takers", 7);
    }

    private static void factsAndErrata(Scene s) {
        s.refusesAt(0, these(40, -1, FAR, LOW), "tell", 39, 999, 0);
        s.refusesAt(1, these(1000, -1, FAR, LOW), "tell", 39, 999, 0);
        s.refusesAt(2, these(-1, LOW), "tell", 39, 999, 0);
        s.refusesAt(0, these(4, 40, -1, FAR, LOW), "known", 0, 5, 0);
        s.refusesAt(1, these(2, -1, 2001, FAR, LOW), "known", 0, 2000, 0);
        s.refusesAt(2, these(2, -1, FAR, LOW), "known", 0, 5, 1);
        s.refusesAt(0, these(11, 300, -1, FAR, LOW), "stale", 0, 0);
        s.refusesAt(1, these(-1, 2001, FAR, LOW), "stale", 0, 0);
        s.refusesAt(0, these(0, 1, 2, 4, 5, 11, -1, FAR, LOW), "mend", 3);
        s.refusesAt(0, these(1, 3, 4, 5, 11, -1, FAR, LOW), "erratum", 0, 8, 9);
        s.refusesAt(1, these(1000, -1, FAR, LOW), "erratum", 0, 8, 999);
        s.refusesAt(2, these(1000, -1, FAR, LOW), "erratum", 0, 8, 999);
        s.refusesAt(0, these(2, 60, -1, FAR, LOW), "misses", 1);
        s.refusesAt(0, these(11, 300, -1, FAR, LOW), "told", 10, 7);
        s.refusesAt(1, these(8, -1, FAR, LOW), "told", 0, 7);
    }

    private static void settingAndPromises(Scene s) {
        // 0 is SET; 1 and 5 have ARTICLES that aren't DONE; must doesn't hold in 3
        s.refusesAt(0, these(0, 1, 3, 5, 6, -1, FAR, LOW, 32), "set", 2);
        s.refusesAt(0, these(0, 3, 16, 17, 20, -1, FAR, LOW), "promise", 8);
        s.refusesAt(0, these(0, 3, 10, 20, -1, FAR, LOW), "ends", 8);
        s.refusesAt(0, these(5, 12, -1, FAR, LOW), "promised", 4);
    }

    private static void subscribersAndLengths(Scene s) {
        s.refusesAt(0, these(0, 1, 10, -1, FAR, LOW), "subscribe", 3, 0, 5);
        s.refusesAt(1, these(6, -1, FAR, LOW), "subscribe", 3, 0, 5);
        s.refusesAt(2, these(0, 1000, -1, FAR, LOW), "subscribe", 3, 0, 5);
        s.refusesAt(0, these(1, 2, 3, 10, -1, FAR, LOW), "owed", 0, 0);
        s.refusesAt(1, these(1, 5, 6, -1, FAR, LOW), "owed", 0, 0);
        s.refusesAt(0, these(0, 6, -1, FAR, LOW), "lengths", 1, 7);
        s.refusesAt(1, these(0, 400, 401, -1, FAR, LOW), "lengths", 1, 7);
        s.refusesAt(0, these(0, 2, 3, 4, 5, 8, 18, 20, -1, FAR, LOW), "length", 6, 7);
        s.refusesAt(1, these(0, 400, 401, -1, FAR, LOW), "length", 6, 7);
    }

    private static void giving(Scene s) {
        int free = 1 << 12 | 1 << 13;
        int[] noArticles = {0, 1, 4, 8, 16, 64, 1 << 11, 1 << 20, 1 << 30, free | 1, free | 1 << 30, LOW, FAR, -1};
        int[] noHands = {0, 16, 32, 17, 1 << 12, LOW, FAR, -1};
        int[] noDays = {0, 401, -1, FAR, LOW};
        s.refusesAt(0, noArticles, "giving", free, 3, 9);
        s.refusesAt(1, noHands, "giving", free, 3, 9);
        s.refusesAt(2, noDays, "giving", free, 3, 400);
        s.refusesAt(0, noArticles, "given", free, 3, 9, 12);
        s.refusesAt(1, noHands, "given", free, 3, 9, 12);
        s.refusesAt(2, noDays, "given", free, 3, 400, 12);
        s.refusesAt(3, these(0, 6, 14, 20, -1, FAR, LOW), "given", free, 3, 9, 13);
    }

    private static void thievesAndCounts(Scene s) {
        s.refusesAt(0, these(3, 31, -1, FAR, LOW), "index", 1, 0, 0);
        s.refusesAt(1, these(1, 6, -1, FAR, LOW), "index", 1, 0, 0);
        s.refusesAt(2, these(1, -1, FAR, LOW), "index", 1, 0, 0);
        s.refusesAt(0, these(1000, -1, FAR, LOW), "steal", 999);
        s.refusesAt(0, these(1, 5, 6, -1, FAR, LOW), "thief", 0, 0);
        s.refusesAt(1, these(2, -1, FAR, LOW), "thief", 0, 0);
        s.refusesAt(0, these(9, 15, 21, 22, 29, 35, 42, -1, FAR, LOW), "count", 14);
    }

    // ---- books that are full

    private static void ofFullBooks() {
        int a = 'a' << 24;
        for (int bytes : new int[] {600, 581, 599}) {
            Book text = new Book();
            text.text("owe 1;".repeat(100).substring(0, bytes));
            new Scene(bytes + " bytes", text).refuses("feed", a, a, a, a, a);
        }
        Book sheets = new Book();
        for (int i = 0; i < 12; i++) {
            sheets.ask("sheet");
        }
        sheets.ask("force", 11, 3);
        sheets.text("owe 1;");
        new Scene("12 SHEETS", sheets).refuses("sheet");
        Book puts = new Book();
        puts.sheet("numbers last;skip an;");
        puts.sheet("numbers first;owe 1;");
        puts.article("an 7", 1);
        puts.pointer("9", 0);
        for (int i = 0; i < 20; i++) {
            puts.ask("force", i % 2, i % 3 - 1);
        }
        Scene put = new Scene("20 put in force", puts);
        put.refuses("force", 0, NONE);
        put.refuses("force", 0, 1);
        put.refuses("force", 2, NONE);
        Book entries = new Book();
        for (int i = 0; i < 60; i++) {
            entries.article("a", 1);
        }
        Scene entry = new Scene("60 ENTRIES", entries);
        int f = 'f' << 24;
        entry.refuses("article", f, 0, 0, 27200);
        entry.refuses("pointer", f, 0, 0, 0);
        entry.refuses("plate", f, 0, 0, 0, 1);
        Book hands = new Book();
        // Lengths tell of each HAND, what it can.
        hands.forAll("least short skill+age;most short skill+age;");
        for (int i = 0; i < 12; i++) {
            hands.writer(1 + i);
            hands.article("a", 1);
            hands.ask("give", i, i);
        }
        Scene hand = new Scene("12 HANDS", hands);
        hand.refuses("hand", 255, 1, 0);
        hand.refuses("hand", 1, 20, -40000);
        fullOfLines();
    }

    private static void fullOfLines() {
        Book lines = new Book();
        lines.writer(1);
        lines.article("b", 200);
        lines.article("c", 200);
        lines.ask("give", 0, 0);
        lines.ask("give", 1, 0);
        lines.ask("tell", 0, 1, 0);
        for (int i = 0; i < 300; i++) {
            lines.ask("line", i < 199 ? 0 : 1, i % 3 == 0 ? 0 : 99 + i, i % 5);
        }
        Scene line = new Scene("300 LINES", lines);
        line.refuses("line", 0, NONE, 0);
        line.refuses("line", 1, 0, 0);
        Book errata = new Book();
        errata.writer(1);
        errata.article("b", 2);
        errata.ask("give", 0, 0);
        errata.ask("tell", 0, 1, 0);
        errata.ask("line", 0, 0, 0);
        errata.ask("line", 0, 0, 0);
        errata.ask("set", 0);
        for (int i = 0; i < 60; i++) {
            errata.ask("erratum", i % 2, 1 + i / 2, 2 + i / 2);
        }
        Scene erratum = new Scene("60 ERRATA", errata);
        erratum.refuses("erratum", 0, 31, 1);
        erratum.refuses("erratum", 1, 5, 1);
        for (int i = 0; i < 30; i++) {
            errata.ask("steal", 0);
        }
        new Scene("30 numbers", errata).refuses("steal", 1);
    }
}
