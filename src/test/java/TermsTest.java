/** The Terms of the document, sentence by sentence, at the edges that each of them names. */
public final class TermsTest {
    private static final int NONE = Book.NONE;
    private static final Sentences DOC = new Sentences("## Terms", "What is refused changes nothing.");

    public static void main(String[] args) {
        daysAndVolumes();
        marksAndHeadings();
        texts();
        clauses();
        sums();
        conditions();
        faults();
        results();
        sheetsInForce();
        keys();
        volumesOfEntries();
        reasons();
        entries();
        hands();
        given();
        rulesOfGiving();
        lines();
        deaths();
        facts();
        staleLines();
        errata();
        setting();
        pointers();
        promises();
        subscribers();
        lengths();
        giving();
        waysOfGiving();
        index();
        thief();
        DOC.close();
    }

    private static void says(String sentence) {
        DOC.says(sentence);
    }

    private static void due(String what, int got, int want) {
        DOC.due(what, got, want);
    }

    // ---- 1

    private static void daysAndVolumes() {
        says("DAYS are 0 .. 2000; NOW is one (0 at first).");
        Book b = new Book();
        due("NOW at first", b.ask("count", 0), 0);
        b.ask("tell", 3, 7, 1);
        due("the first DAY", b.ask("known", 3, 0, 0), 7);
        due("the last DAY", b.ask("known", 3, 2000, 0), 7);
        due("ahead of the first", b.ask("known", 3, -1, 0), NONE);
        due("behind the last", b.ask("known", 3, 2001, 0), NONE);
        for (int i = 0; i < 6; i++) {
            b.ask("go", 300);
        }
        due("one ahead of the last", b.ask("go", 199), 1999);
        due("the last", b.ask("go", 1), 2000);
        due("NOW is a DAY", b.ask("go", 300), 2000);
        due("NOW", b.ask("count", 0), 2000);

        says("VOLUMES are 0 .. 5: OPEN, till SET on a DAY.");
        Book v = new Book();
        due("none is SET", v.ask("count", 6), 0);
        due("-1", v.ask("set", -1), NONE);
        due("6", v.ask("set", 6), NONE);
        for (int i = 5; i >= 0; i--) {
            due("OPEN", v.ask("set", i), 0);
            due("no more", v.ask("set", i), NONE);
            due("SET", v.ask("count", 6), 64 - (1 << i));
        }
    }

    private static void marksAndHeadings() {
        says("MARKS are letters a to z and digits 0 to 9.");
        Book b = new Book();
        int marks = 0;
        for (int c = 0; c < 256; c++) {
            boolean mark = c >= 'a' && c <= 'z' || c >= '0' && c <= '9';
            due("byte " + c, b.article("" + (char) c, 1), mark ? marks : NONE);
            marks += mark ? 1 : 0;
        }

        says("VOLUME of a MARK: told bounds: the last letter of each VOLUME (0 a .. 25 z; VOLUME 5 has all behind; at first VOLUME v has up to letter 5v + 4, v below 5); a digit is of VOLUME 0, if numbers are first, else of 5.");
        // As they came above, the digits are ENTRIES 0 to 9, the letters 10 to 35.
        for (int i = 0; i < 36; i++) {
            due("at first, " + i, b.ask("volume", i), i < 10 ? 0 : (i - 10) / 5);
        }
        b.ask("bound", 0, 0);
        b.ask("bound", 1, 0);
        b.ask("bound", 4, 25);
        b.ask("bound", 3, 25);
        due("a", b.ask("volume", 10), 0);
        due("b is of none that ends at a", b.ask("volume", 11), 2);
        due("o", b.ask("volume", 24), 2);
        due("p", b.ask("volume", 25), 3);
        due("z is of the first that has it", b.ask("volume", 35), 3);
        due("0 is of 0, whatever the bounds", b.ask("volume", 0), 0);
        b.forVolume("numbers last;", 0);
        due("numbers are first for all", b.ask("volume", 9), 0);
        b.forAll("numbers last;");
        due("0, numbers last", b.ask("volume", 0), 5);
        due("9, numbers last", b.ask("volume", 9), 5);
        due("a stays", b.ask("volume", 10), 0);

        says("HEADINGS have 1 to 12 bytes: MARKS and blanks (32; not the first or last byte, nor two side by side).");
        Book h = new Book();
        due("no byte", h.article("", 1), NONE);
        due("1 byte", h.article("a", 1), 0);
        due("12 bytes", h.article("abcdefghijk9", 1), 1);
        due("12 bytes with blanks", h.article("a b c d e f7", 1), 2);
        due("a blank alone", h.article(" ", 1), NONE);
        due("a blank first", h.article(" ab", 1), NONE);
        due("a blank last", h.article("ab ", 1), NONE);
        due("a blank as byte 12", h.article("abcdefghijk ", 1), NONE);
        due("a blank as byte 11", h.article("abcdefghij k", 1), 3);
        due("two blanks", h.article("a  b", 1), NONE);
        due("two blanks across the numbers", h.article("abc  d", 1), NONE);
        due("another byte within", h.article("a-b", 1), NONE);
        due("a line end", h.article("a\nb", 1), NONE);
        due("of a POINTER", h.pointer("a ", 0), NONE);
        due("of a PLATE", h.plate("a  b", 0, 1), NONE);

        says("WORDS of it are what blanks part.");
        Book w = new Book();
        w.article("za bc", 1);
        w.article("zab c", 1);
        w.article("z a bc", 1);
        w.forAll("skip za;skip z;");
        due("za is a WORD", w.ask("volume", 0), 0);
        due("a part of one isn't", w.ask("volume", 1), 5);
        due("z is one", w.ask("volume", 2), 0);
    }

    // ---- 2

    private static int fault(String text) {
        Book b = new Book();
        b.text(text);
        return b.ask("fault");
    }

    private static void fault(String text, int want) {
        due("\"" + text + "\"", fault(text), want);
    }

    private static void texts() {
        says("==== 2. TEXTS. A TEXT has at most 600 bytes.");
        Book b = new Book();
        String sum = "owe 1" + "+1".repeat(297);
        b.text(sum + ";");
        due("600 bytes", b.ask("count", 7), 600);
        due("no more", b.ask("feed", 0, 0, 0, 0, 0), NONE);
        due("all are read", b.ask("fault"), NONE);
        due("a SHEET comes", b.ask("sheet"), 0);
        b.ask("force", 0, NONE);
        b.ask("subscribe", 0, 0, 999);
        b.ask("set", 0);
        due("of all of it", b.ask("owed", 0, 0), 298);
        b.text(sum + "+");
        due("600 bytes that end too early", b.ask("fault"), 600);
        b.text(";".repeat(600));
        due("600 signs", b.ask("fault"), 0);
        b.text("owe 1;" + " ".repeat(593) + ";");
        due("the last byte", b.ask("fault"), 599);

        says("TOKENS are words of small letters, numbers of digits, the signs + - * / ( ) [ ] , < > = ; with any blanks and line ends (10) between; each word or number as long as can be.");
        for (int c = 0; c < 256; c++) {
            fault("owe 1;" + (char) c, c == ' ' || c == '\n' ? NONE : 6);
        }
        fault(" \n\n  owe\n \n1 \n;\n ", NONE);
        fault("owe1;numbers last;blanks\npass;", NONE);
        fault("owe 1;owe(1);", 6);
        fault("ow e 1;", 0);
        fault("owe 1 2;", 6);
        fault("oweasked;", 0);
        fault("owe asked lines;", 10);
        fault("owe asked1;", 9);
        fault("owe 1asked;", 5);
        fault("write 1=1and 2=2or not 3=3;", NONE);
        fault("write not1=1;", NONE);
        fault("write notnot 1=1;", 6);
        fault("owe (1)*((2)-[3);", 13);
        fault("owe 1 - 2 / 3;", NONE);
    }

    private static final String WORDS = "skip numbers blanks least most pay write must owe short plain long first last count pass or and not "
        + "asked lines facts points field skill age volume late";

    /** Each word of the language in one place of a text: those that may stand there, and no other. */
    private static void wordsThatStand(String ahead, String may, String behind) {
        for (String word : WORDS.split(" ")) {
            boolean stands = (" " + may + " ").contains(" " + word + " ");
            fault(ahead + word + behind, stands ? NONE : ahead.length());
        }
    }

    private static void clauses() {
        says("A TEXT is CLAUSES, none or more, each ended by ; (but of skip, one of a kind in a TEXT; least, most and pay one for each K):");
        fault("", NONE);
        fault("\n", NONE);
        fault("skip a;numbers last;blanks pass;write 1=1;must 1=1;owe 1;", NONE);
        fault("least short 1;least plain 1;least long 1;most short 1;most plain 1;most long 1;pay short 1;pay plain 1;pay long 1;", NONE);
        fault("owe 1", 5);
        fault("owe 1;;", 6);
        fault(";", 0);
        fault("skip a;skip a;", NONE);
        for (String word : WORDS.split(" ")) {
            boolean opens = " skip numbers blanks least most pay write must owe ".contains(" " + word + " ");
            fault(word + " ;", opens ? word.length() + 1 : 0);
        }
        String[] once = {"numbers first;", "blanks count;", "write 1=1;", "must 1=1;", "owe 1;"};
        for (String one : once) {
            fault(one + one, one.length());
            fault(one + "skip a;" + one, one.length() + 7);
        }
        for (String c : new String[] {"least", "most", "pay"}) {
            for (String k : new String[] {"short", "plain", "long"}) {
                String one = c + " " + k + " 1;";
                fault(one + one, one.length() + c.length() + 1);
            }
        }

        says("skip W (W: any word of 1 to 8 letters; 4 of these at most)");
        fault("skip a;", NONE);
        fault("skip abcdefgh;", NONE);
        fault("skip abcdefghi;", 5);
        fault("skip zzzzzzzzzzzzzzzzzzzzzzzzzzzzzz;", 5);
        fault("skip skip;skip numbers;skip not;skip asked;", NONE);
        fault("skip ;", 5);
        fault("skip 1;", 5);
        fault("skip a b;", 7);
        fault("skip a;skip b;skip c;skip d;", NONE);
        fault("skip a;skip b;skip c;skip d;skip e;", 33);
        fault("skip a;skip b;skip c;owe 1;skip d;skip e;", 39);

        says("numbers first | numbers last blanks count | blanks pass");
        fault("numbers first;blanks count;", NONE);
        fault("numbers last;blanks pass;", NONE);
        wordsThatStand("numbers ", "first last", ";");
        wordsThatStand("blanks ", "count pass", ";");
        fault("numbers;", 7);
        fault("numbers first last;", 14);

        says("least K E | most K E | pay K E (K: short plain long)");
        fault("least short 1;most plain asked;pay long (1);", NONE);
        for (String c : new String[] {"least ", "most ", "pay "}) {
            wordsThatStand(c, "short plain long", " 1;");
        }
        fault("least 1;", 6);
        fault("most middle 1;", 5);
        fault("pay short short 1;", 10);
        fault("pay short;", 9);
        fault("pay short 1=1;", 11);

        says("write C | must C owe E");
        fault("write 1=1;must 2>1;owe 3;", NONE);
        fault("write 1;", 7);
        fault("must 1+1;", 8);
        fault("owe 1<2;", 5);
        fault("owe [1=1];", 4);
        fault("first write 1=1;", 0);
        wordsThatStand("must 1=1 ", "or and", " 1=1;");
    }

    /** What a sum comes to, as PAY of the first LINE of an ARTICLE with 20 lines ASKED. */
    private static int pay(String sum) {
        Book b = new Book();
        b.writer(4);
        b.article("a", 10020);
        b.forAll("pay plain " + sum + ";");
        b.ask("give", 0, 0);
        b.ask("line", 0, NONE, 0);
        return b.ask("told", 0, 6);
    }

    private static void pay(String sum, int want) {
        due(sum, pay(sum), want);
    }

    private static void sums() {
        says("E is T, any number of + T or - T; T is F, any number of * F or / F; F is a number (0 .. 99999), a NAME or ( E ).");
        pay("1", 1);
        pay("1+2+3+4-5-3", 2);
        pay("9-3-2", 4);
        pay("9-(3-2)", 8);
        pay("64/4/2", 8);
        pay("64/(4/2)", 32);
        pay("2*3*4/6", 4);
        pay("2+3*4-6/2", 11);
        pay("(2+3)*(4-2)", 10);
        pay("0", 0);
        pay("99999", 99999);
        pay("0099999", 99999);
        pay("asked*2", 40);
        fault("owe 100000;", 4);
        fault("owe 00100000;", 4);
        fault("owe +1;", 4);
        fault("owe -1;", 4);
        fault("owe 1+;", 6);
        fault("owe 1+*2;", 6);
        fault("owe (1;", 6);
        fault("owe 1);", 5);
        fault("owe ();", 5);
        fault("owe (1)2;", 7);

        says("NAMES: asked lines facts points field skill age volume late.");
        String names = "asked lines facts points field skill age volume late";
        wordsThatStand("owe ", names, ";");
        wordsThatStand("owe 1+(", names, ");");
        wordsThatStand("must (", names, ")=1;");
        wordsThatStand("must 1=", names, ";");
        fault("owe ask;", 4);
        fault("owe lateness;", 4);
    }

    /** Whether a HAND may write by a condition, of the VOLUME's only ARTICLE. */
    private static int holds(String condition) {
        Book b = new Book();
        b.writer(4);
        b.article("a", 10020);
        b.forAll("write " + condition + ";");
        return b.ask("give", 0, 0);
    }

    private static void holds(String condition, int want) {
        due(condition, holds(condition), want);
    }

    private static void conditions() {
        says("C is A, any number of or A; A is B, any number of and B; B is not B, [ C ], E < E, E > E, or E = E.");
        String t = "1=1";
        String f = "1=2";
        holds(t, 1);
        holds(f, 0);
        holds("1<2", 1);
        holds("2<2", 0);
        holds("3<2", 0);
        holds("2>1", 1);
        holds("2>2", 0);
        holds("2>3", 0);
        holds("2=2", 1);
        holds("0-1<0", 1);
        holds("0-1=1", 0);
        holds(t + " or " + f, 1);
        holds(f + " or " + t, 1);
        holds(f + " or " + f, 0);
        holds(f + " or " + f + " or " + t, 1);
        holds(t + " and " + f, 0);
        holds(f + " and " + t, 0);
        holds(t + " and " + t + " and " + t, 1);
        holds(t + " and " + t + " and " + f, 0);
        holds(t + " or " + t + " and " + f, 1);
        holds(f + " and " + f + " or " + t, 1);
        holds("[" + t + " or " + t + "] and " + f, 0);
        holds("not " + f, 1);
        holds("not " + t, 0);
        holds("not not " + t, 1);
        holds("not " + t + " or " + t, 1);
        holds("not " + f + " and " + f, 0);
        holds("not [" + f + " and " + f + "]", 1);
        holds("not [" + t + " or " + f + "]", 0);
        holds("not 0=1", 1);
        holds("1+1=2 and 2*2>3", 1);
        fault("write 1=1=1;", 9);
        fault("write 1=1 or;", 12);
        fault("write and 1=1;", 6);
        fault("write [1];", 8);
        fault("write (1=1);", 8);
        fault("write [1=1;", 10);
        fault("write 1=1];", 9);
        fault("write not;", 9);
        fault("write 1=[1];", 8);
        fault("write 1 not =1;", 8);

        says("What (, [ and not open is one deeper; 8 at most.");
        fault("owe " + "(".repeat(8) + "1" + ")".repeat(8) + ";", NONE);
        fault("owe " + "(".repeat(9) + "1" + ")".repeat(9) + ";", 12);
        fault("must " + "[".repeat(8) + "1=1" + "]".repeat(8) + ";", NONE);
        fault("must " + "[".repeat(9) + "1=1" + "]".repeat(9) + ";", 13);
        fault("must " + "not ".repeat(8) + "1=1;", NONE);
        fault("must " + "not ".repeat(9) + "1=1;", 37);
        fault("must not [not [(((1+(2))))=1]];", NONE);
        fault("must not [not [((((1+(2)))))=1]];", 21);
        fault("must " + "[".repeat(7) + "not 1=1" + "]".repeat(7) + ";", NONE);
        fault("must " + "[".repeat(7) + "not (1)=1" + "]".repeat(7) + ";", 16);
        fault("must " + "[".repeat(7) + "(1)=(1) and not 1=1" + "]".repeat(7) + ";", NONE);
        fault("must " + "[".repeat(8) + "1=1" + "]".repeat(8) + " or " + "[".repeat(8) + "1=1" + "]".repeat(8) + ";", NONE);
        fault("must not 1=1 and " + "not ".repeat(8) + "1=1;", NONE);
        fault("owe (1)+" + "(".repeat(8) + "1" + ")".repeat(8) + ";", NONE);
        holds("[".repeat(8) + "1=1" + "]".repeat(8), 1);
        holds("not ".repeat(7) + "1=1", 0);
        pay("(".repeat(8) + "5" + ")".repeat(8), 5);
        pay("1+(1+(1+(1+(1+(1+(1+(1+(1))))))))", 9);
    }

    private static void faults() {
        says("The FAULT is the place (from 0 on) of the first byte of the first TOKEN that can't stand there (also: a number too great, a CLAUSE that was there, a fifth W, a word that is no W, what opens too deep), or of a byte that begins no TOKEN, if that is ahead; the length, if it ends too early; NONE without.");
        fault("x", 0);
        fault("  x", 2);
        fault("owe 1; owed 2;", 7);
        fault("owe 123 456;", 8);
        fault("owe 100000+(;", 4);
        fault("owe 1;owe 100000;", 6);
        fault("skip a;skip b;skip c;skip d;skip 5;", 33);
        fault("skip ninemarks;", 5);
        fault("owe ((((((((( x", 12);
        fault("$", 0);
        fault("owe 1 $ 100000;", 6);
        fault("owe 100000 $;", 4);
        fault("owe 1;A", 6);
        fault("skip \u00e9;", 5);
        fault("o", 0);
        fault("owe", 3);
        fault("owe ", 4);
        fault("owe 1  ", 7);
        fault("owe (1", 6);
        fault("least", 5);
        fault("least short", 11);
        fault("numbers", 7);
        fault("skip", 4);
        fault("skip a", 6);
        fault("write not", 9);
        fault("write [1=1", 10);
        fault("write 1=1 and", 13);
        fault("owe 1;", NONE);
    }

    private static void results() {
        says("Results of + - * are brought into -1000000 .. 1000000 (the nearer end), / is cut toward 0, by 0 it is 0.");
        String most = "1000*1000";
        pay(most, 1000000);
        pay("1000*1000-1", 999999);
        pay("1000*1000+1", 1000000);
        pay("1000*1000+99999-99999", 900001);
        pay("99999*99999", 1000000);
        pay("99999*99999*99999*99999", 1000000);
        pay("0-99999*99999+99999*10+50", 40);
        String least = "(0-" + most + ")";
        holds(least + "-1=" + least, 1);
        holds(least + "+1>" + least, 1);
        holds(least + "*2=" + least, 1);
        holds(least + "*(0-2)=" + most, 1);
        holds(most + "*(0-2)=" + least, 1);
        holds("0-" + least + "=" + most, 1);
        pay("7/2", 3);
        pay("10+(0-7)/2", 7);
        pay("10+7/(0-2)", 7);
        pay("10+(0-7)/(0-2)", 13);
        pay("1/2", 0);
        pay("10+(0-1)/2", 10);
        pay("7/0", 0);
        pay("3+7/0", 3);
        pay("3+7/(2-2)*5", 3);
        pay("0/0+2", 2);
        holds("(0-7)/0=0", 1);
    }

    private static void sheetsInForce() {
        says("A SHEET comes of a TEXT without a FAULT (at most 12).");
        Book s = new Book();
        due("with a FAULT", s.sheet("owe 1"), NONE);
        for (int i = 0; i < 12; i++) {
            due("a SHEET", s.sheet(i % 2 == 0 ? "" : "owe 1;"), i);
        }
        due("a thirteenth", s.sheet(""), NONE);
        due("12", s.ask("count", 4), 12);

        says("IN FORCE for a VOLUME on a DAY is, for each sort of CLAUSE (each W by itself; least, most and pay for each K), that of the SHEET put in force latest on or ahead of the DAY (by DAYS, of like ones the later put) for that VOLUME or for all, which has it.");
        Book b = new Book();
        b.sheet("owe 1;pay short 1;");
        b.sheet("owe 2;pay plain 2;");
        b.sheet("owe 3;");
        b.ask("force", 0, NONE);
        b.ask("go", 5);
        b.ask("force", 1, 3);
        b.ask("go", 5);
        b.ask("force", 2, NONE);
        due("on the DAY", b.ask("rule", 4, 3, 5), 1);
        due("the DAY ahead", b.ask("rule", 4, 3, 4), 0);
        due("up to the next", b.ask("rule", 4, 3, 9), 1);
        due("the latest, though for all", b.ask("rule", 4, 3, 10), 2);
        due("of another VOLUME", b.ask("rule", 4, 2, 9), 0);
        due("which has it: short", b.ask("rule", 30, 3, 10), 0);
        due("which has it: plain", b.ask("rule", 31, 3, 10), 1);
        due("nobody has: long", b.ask("rule", 32, 3, 10), NONE);
        due("plain, for another VOLUME", b.ask("rule", 31, 2, 10), NONE);
        b.ask("force", 0, 3);
        due("of like DAYS the later put", b.ask("rule", 4, 3, 10), 0);
        b.ask("force", 1, NONE);
        due("and the later again", b.ask("rule", 4, 3, 10), 1);
        due("of the SHEET put twice", b.ask("rule", 30, 3, 10), 0);
        Book w = new Book();
        w.article("the b", 1);
        w.article("das c", 1);
        w.forAll("skip the;");
        w.forAll("skip das;");
        due("each W by itself", w.ask("volume", 0), 0);
        due("each W by itself", w.ask("volume", 1), 0);

        says("Without one: no W, numbers first, blanks count, least 1, most 400, pay 1, write and must hold, owe 0.");
        for (int k = 0; k < 3; k++) {
            without(k);
        }

        says("A W that any such SHEET has is skipped (skip isn't taken back).");
        Book y = new Book();
        y.article("the b", 1);
        y.article("an c", 1);
        y.forAll("skip the;");
        y.forAll("skip an;owe 1;");
        y.ask("go", 9);
        y.forAll("owe 1;");
        due("it stays", y.ask("volume", 0), 0);
        due("so does the other", y.ask("volume", 1), 0);
        Book other = new Book();
        other.article("the b", 1);
        other.sheet("skip the;owe 9;");
        other.forAll("must 1=1;");
        due("not one of a SHEET that isn't in force", other.ask("volume", 0), 3);
        other.ask("subscribe", 0, 0, 9);
        other.ask("set", 0);
        due("nor its owe", other.ask("owed", 0, 0), 0);
        y.forVolume("skip b;", 3);
        y.article("b z", 1);
        due("for one VOLUME alone: not for all", y.ask("volume", 2), 0);
    }

    private static void without(int k) {
        Book b = new Book();
        b.article("the b", 10000 * k + 2);
        b.article("7", 10000 * k + 2);
        b.article("a b", 10000 * k + 200);
        b.article("ab", 10000 * k + 200);
        due("no W", b.ask("volume", 0), 3);
        due("numbers first", b.ask("at", 0, 0), 1);
        due("blanks count", b.ask("at", 0, 1), 2);
        b.plate("p", 0, 1);
        due("least 1", b.ask("lengths", 3, 11), 1);
        due("least 1", b.ask("length", 0, 11), 1);
        b.article("z", 10000 * k + 200);
        due("most 400", b.ask("lengths", 5, 400), 200);
        due("most 400", b.ask("length", 5, 400), 400);
        b.ask("hand", 1, 1, 0);
        due("write holds", b.ask("give", 1, 0), 1);
        b.ask("line", 1, NONE, 0);
        due("pay 1", b.ask("told", 0, 6), 1);
        b.ask("strike", 2);
        b.ask("strike", 3);
        b.ask("line", 1, NONE, 0);
        due("must holds", b.ask("set", 0), 1);
        b.ask("subscribe", 0, 0, 9);
        due("owe 0", b.ask("owed", 0, 0), 0);
    }

    // ---- 3

    private static void order(Book b, int volume, int... want) {
        for (int k = 0; k <= want.length; k++) {
            due("place " + k + " of VOLUME " + volume, b.ask("at", volume, k), k < want.length ? want[k] : NONE);
        }
    }

    private static void keys() {
        says("==== 3. ORDER. The KEY of a HEADING by rules: its first WORD is left out, if it is a W, and more follow; blanks are left out, if blanks pass.");
        Book b = new Book();
        String[] all = {"the b", "the", "the the a", "b the", "theb", "the 7", "abcdefgh b", "abcdefghi b", "th e b", "the b c"};
        for (String heading : all) {
            b.article(heading, 1);
        }
        b.forAll("skip the;skip abcdefgh;skip th;");
        int[] volumes = {0, 3, 3, 0, 3, 0, 0, 0, 0, 0};
        for (int i = 0; i < all.length; i++) {
            due(all[i], b.ask("volume", i), volumes[i]);
        }
        // 7; abcdefghi b; b; b (of abcdefgh); b c; b the; e b
        order(b, 0, 5, 7, 0, 6, 9, 3, 8);
        // the; the a; theb
        order(b, 3, 1, 2, 4);
        b.forAll("blanks pass;");
        // thea; theb follow the
        order(b, 3, 1, 2, 4);
        // 7; abcdefghib; b; b; bc; bthe; eb
        order(b, 0, 5, 7, 0, 6, 9, 3, 8);
        Book p = new Book();
        p.article("a b c", 1);
        p.article("ab b", 1);
        p.article("aba", 1);
        order(p, 0, 0, 1, 2);
        p.forAll("blanks pass;");
        // abc; abb; aba
        order(p, 0, 2, 1, 0);
        p.forAll("blanks count;");
        order(p, 0, 0, 1, 2);

        says("KEYS are compared byte by byte: what ends first is ahead; a blank is ahead of all MARKS, letters by the alphabet, digits by worth, all digits ahead of all letters, if numbers are first, else behind.");
        Book c = new Book();
        String[] mixed = {"ab", "a", "a b", "a0", "a9", "az", "aa", "a 0", "a z", "abcdefghijkl", "abcdefghijkm", "abcdefghijk"};
        for (String heading : mixed) {
            c.article(heading, 1);
        }
        // a; a 0; a b; a z; a0; a9; aa; ab; abcdefghijk; ..l; ..m; az
        order(c, 0, 1, 7, 2, 8, 3, 4, 6, 0, 11, 9, 10, 5);
        c.forAll("numbers last;");
        order(c, 0, 1, 2, 8, 7, 6, 0, 11, 9, 10, 5, 3, 4);
        Book d = new Book();
        for (int i = 9; i >= 0; i--) {
            d.article("" + i, 1);
        }
        d.article("10", 1);
        order(d, 0, 9, 8, 10, 7, 6, 5, 4, 3, 2, 1, 0);
        d.forAll("numbers last;");
        order(d, 5, 9, 8, 10, 7, 6, 5, 4, 3, 2, 1, 0);

        says("KEYS alike: by numbers of ENTRIES.");
        Book e = new Book();
        e.article("b", 1);
        e.article("b", 1);
        e.article("the b", 1);
        e.article("b", 1);
        e.forAll("skip the;");
        order(e, 0, 0, 1, 2, 3);
    }

    private static void volumesOfEntries() {
        says("The VOLUME of an ENTRY is that with which it was SET; else that of its KEY's first byte (KEYS by SHEETS put in force for all alone; the order within a VOLUME by KEYS made anew as the rules for it are).");
        Book b = new Book();
        b.pointer("the b", b.article("z", 1));
        b.pointer("the a", 0);
        b.pointer("p", 0);
        b.pointer("s", 0);
        due("by its KEY", b.ask("volume", 1), 3);
        order(b, 3, 3, 4, 2, 1);
        b.forVolume("skip the;", 3);
        due("by what is for all alone", b.ask("volume", 1), 3);
        order(b, 3, 2, 1, 3, 4);
        b.ask("strike", 4);
        due("SET", b.ask("set", 3), 1);
        b.forAll("skip the;");
        due("with which it was SET", b.ask("volume", 1), 3);
        due("and its ORDER", b.ask("at", 3, 0), 2);
        b.pointer("the c", 0);
        due("a new one by its KEY", b.ask("volume", 5), 0);

        says("As long as that VOLUME is SET already, the ENTRY counts as LATER.");
        Book c = new Book();
        c.article("7", 1);
        c.ask("set", 5);
        due("not yet", c.ask("volume", 0), 0);
        due("not yet", c.ask("is", 0, 7), 0);
        c.forAll("numbers last;");
        due("SET already", c.ask("volume", 0), 6);
        due("SET already", c.ask("is", 0, 7), 2);
        due("in no ORDER", c.ask("at", 5, 0), NONE);
        c.forAll("numbers first;");
        due("no longer", c.ask("volume", 0), 0);
        due("no longer", c.ask("is", 0, 7), 0);
        due("in ORDER again", c.ask("at", 0, 0), 0);
        c.article("z", 1);
        due("one that comes", c.ask("volume", 1), 6);
    }

    private static int why(String rules, String a, String b) {
        Book x = new Book();
        x.article(a, 1);
        x.article(b, 1);
        x.forAll(rules);
        int why = x.ask("why", 0, 1);
        due("the other way round", x.ask("why", 1, 0), why);
        return why;
    }

    private static void reasons() {
        says("WHY two are in that order (by what is for all): 4 if KEYS are alike; else 1 skip, 2 blanks, 3 numbers: the first of these which, told the other way (no W at all; the other one of blanks, of numbers), would turn the two; else 0.");
        due("alike", why("", "a", "a"), 4);
        due("alike by skip", why("skip the;", "the a", "a"), 4);
        due("alike as blanks pass", why("blanks pass;", "a b", "ab"), 4);
        due("skip", why("skip the;", "the b", "c"), 1);
        due("skip, but not turned", why("skip the;", "the b", "a"), 0);
        due("blanks count", why("", "a c", "ab"), 2);
        due("blanks pass", why("blanks pass;", "a c", "ab"), 2);
        due("numbers first", why("", "1", "a"), 3);
        due("numbers last", why("numbers last;", "1", "a"), 3);
        due("nothing", why("", "a", "b"), 0);
        due("nothing turns what ends first", why("numbers last;blanks pass;", "a", "a b"), 0);
        due("no W at all: both", why("skip the;skip an;", "the b", "an c"), 1);
        due("both skips, neither alone", why("skip the;skip an;", "the b", "an a"), 0);
        due("skip ahead of numbers", why("skip the;", "the 1", "a"), 1);
        due("skip ahead of blanks", why("skip the;", "the b c", "bb"), 1);
        due("blanks alone, with skip as it is", why("skip a;", "a b c", "bb"), 2);
        due("numbers alone, with skip as it is", why("skip a;", "a 1", "b"), 3);
        due("numbers alone, with blanks as they are", why("", "a 1", "a b"), 3);
        due("blanks ahead of numbers", why("", "a b", "a1"), 2);
        due("alike the other way, the later number ahead now", why("", "ab", "a b"), 2);
        due("alike the other way, the same order", why("", "a b", "ab"), 0);
        Book b = new Book();
        b.article("a c", 1);
        b.article("ab", 1);
        b.forVolume("blanks pass;skip a;", 0);
        due("by what is for all", b.ask("why", 0, 1), 2);
    }

    // ---- 4

    private static void entries() {
        says("==== 4. ENTRIES have numbers as they come, at most 60: ARTICLES (K 0 short, 1 plain, 2 long; a FIELD 0 .. 7; ASKED 1 .. 200 lines), POINTERS (to an ENTRY), PLATES (of up to 4 ENTRIES).");
        Book b = new Book();
        for (int k = 0; k < 3; k++) {
            due("K " + k, b.article("a", 10000 * k + 1), k);
            due("K " + k, b.ask("is", k, 1), k);
        }
        due("no K", b.article("a", 30001), NONE);
        due("FIELD 7", b.article("a", 7001), 3);
        due("FIELD 7", b.ask("is", 3, 2), 7);
        due("no FIELD", b.article("a", 8001), NONE);
        due("no FIELD", b.article("a", 9001), NONE);
        due("ASKED 200", b.article("a", 200), 4);
        due("ASKED 200", b.ask("is", 4, 3), 200);
        due("ASKED 201", b.article("a", 201), NONE);
        due("ASKED 999", b.article("a", 999), NONE);
        due("ASKED 0", b.article("a", 0), NONE);
        due("ASKED 0", b.article("a", 27000), NONE);
        due("below", b.article("a", -1), NONE);
        due("all at their ends", b.article("a", 27200), 5);
        due("a POINTER", b.pointer("a", 5), 6);
        due("a POINTER to itself", b.pointer("a", 7), NONE);
        due("a PLATE of one", b.plate("a", 6, 1), 7);
        due("of four", b.plate("a", 7060504, 4), 8);
        due("of five", b.plate("a", 7060504, 5), NONE);
        due("of none", b.plate("a", 0, 0), NONE);
        for (int i = 9; i < 60; i++) {
            due("more", b.pointer("a", i - 1), i);
        }
        due("a 61st ARTICLE", b.article("a", 1), NONE);
        due("a 61st POINTER", b.pointer("a", 0), NONE);
        due("a 61st PLATE", b.plate("a", 0, 1), NONE);
        due("60", b.ask("count", 1), 60);
        due("the last is there", b.ask("ends", 59), 8);

        says("One may be STRUCK, or sent LATER (to the supplement; both while its VOLUME isn't SET).");
        Book c = new Book();
        c.article("z", 1);
        c.plate("a", 0, 1);
        c.pointer("b", 0);
        c.pointer("c", 0);
        due("STRUCK", c.ask("strike", 1), 1);
        due("LATER", c.ask("later", 2), 1);
        due("not LATER, too", c.ask("later", 1), 0);
        due("not STRUCK, too", c.ask("strike", 2), 0);
        due("the supplement", c.ask("volume", 2), 6);
        c.ask("set", 0);
        due("SET", c.ask("strike", 3), 0);
        due("SET", c.ask("later", 3), 0);
        due("of another VOLUME", c.ask("strike", 0), 1);
    }

    private static void hands() {
        says("HANDS have numbers as they come, at most 12: FIELDS (bits), SKILL (1 .. 20 lines a DAY), BORN on a DAY (-40000 .. 0; AGE: full years of 365 DAYS), ENEMIES (two HANDS each).");
        Book b = new Book();
        due("FIELDS 1", b.ask("hand", 1, 1, -40000), 0);
        due("FIELDS 255", b.ask("hand", 255, 20, 0), 1);
        due("FIELDS 0", b.ask("hand", 0, 1, 0), NONE);
        due("FIELDS 256", b.ask("hand", 256, 1, 0), NONE);
        due("SKILL 0", b.ask("hand", 1, 0, 0), NONE);
        due("SKILL 21", b.ask("hand", 1, 21, 0), NONE);
        due("BORN 1", b.ask("hand", 1, 1, 1), NONE);
        due("BORN -40001", b.ask("hand", 1, 1, -40001), NONE);
        for (int field = 0; field < 8; field++) {
            b.ask("hand", 1 << field, 1, 0);
            b.article("a", 1000 * field + 1);
        }
        for (int field = 0; field < 8; field++) {
            for (int hand = 0; hand < 8; hand++) {
                due("FIELD " + field + " of bit " + hand, b.ask("give", field, 2 + hand), field == hand ? 1 : 0);
            }
        }
        due("11", b.ask("hand", 1, 1, 0), 10);
        due("12", b.ask("hand", 1, 1, 0), 11);
        due("13", b.ask("hand", 1, 1, 0), NONE);
        due("count", b.ask("count", 2), 12);
        due("ENEMIES", b.ask("enemies", 0, 11), 1);
        due("two each: so already", b.ask("enemies", 11, 0), 0);
        due("one of two more", b.ask("enemies", 11, 1), 1);
        due("another two", b.ask("enemies", 0, 1), 1);
        due("still so", b.ask("enemies", 0, 11), 0);
        due("still so", b.ask("enemies", 1, 11), 0);
        int[] born = {0, -364, -365, -729, -730, -40000};
        int[] years = {0, 0, 1, 1, 2, 109};
        for (int i = 0; i < born.length; i++) {
            due("AGE, BORN " + born[i], age(born[i], 0), years[i]);
        }
        due("a DAY more", age(-364, 1), 1);
        due("a year of the book", age(0, 365), 1);
        due("a DAY less", age(0, 364), 0);
        due("the last DAY", age(-40000, 2000), 115);
    }

    private static int age(int born, int day) {
        Book b = new Book();
        b.ask("hand", 1, 1, born);
        b.article("a", 1);
        b.forAll("pay short age;");
        for (int left = day; left > 0; left -= 300) {
            b.ask("go", Math.min(300, left));
        }
        b.ask("give", 0, 0);
        b.ask("line", 0, NONE, 0);
        return b.ask("told", 0, 6);
    }

    /** One ARTICLE of each sort that a name could count wrongly; the answer is PAY for the next LINE of ENTRY 0. */
    private static int nameIs(String sum) {
        Book b = new Book();
        b.ask("hand", 8, 7, -800);
        b.ask("hand", 255, 3, 0);
        b.article("m", 23009);
        b.article("n", 3001);
        b.article("o", 3001);
        b.article("p", 3002);
        b.article("q", 3001);
        for (int i = 5; i < 9; i++) {
            b.pointer("s", 0);
        }
        b.pointer("t", 5);
        b.plate("u", 0, 1);
        b.ask("strike", 7);
        b.ask("later", 8);
        b.ask("tell", 7, 1, 1);
        b.ask("tell", 39, 1, 1);
        b.ask("tell", 0, 1, 1);
        b.ask("give", 0, 1);
        b.ask("line", 0, 7, 0);
        b.ask("line", 0, 39, 0);
        b.ask("line", 0, 7, 0);
        b.ask("line", 0, NONE, 0);
        b.ask("line", 0, 100, 0);
        b.ask("give", 2, 1);
        b.ask("line", 2, 0, 0);
        for (int i = 1; i < 5; i++) {
            b.ask("give", i, 0);
        }
        b.ask("line", 1, NONE, 0);
        b.ask("later", 3);
        b.ask("strike", 4);
        b.ask("go", 300);
        b.ask("give", 0, 0);
        b.forAll("pay long " + sum + ";");
        return b.ask("told", b.ask("line", 0, NONE, 0), 6);
    }

    private static void given() {
        says("An ARTICLE (not STRUCK, nor SET) is GIVEN to a HAND that lives, has its FIELD, and may write (asked: ASKED of it; lines: those that it has; facts: how many FACTS these lean on, each once; points: POINTERS to it that aren't STRUCK; field; skill and age of the HAND; volume: its VOLUME; late: how many ARTICLES were GIVEN to that HAND and still are, that aren't DONE, nor STRUCK), by the rule for its VOLUME (of one that is LATER for all alone; volume 6), and of which no ENEMY of it wrote a line.");
        String[] names = {"asked", "lines", "facts", "points", "field", "skill", "age", "volume", "late"};
        // late: ENTRIES 0 and 3 (LATER); 1 and 2 are DONE, 4 is STRUCK.
        int[] values = {9, 5, 2, 3, 3, 7, 3, 2, 2};
        for (int i = 0; i < names.length; i++) {
            due(names[i], nameIs(names[i]), values[i]);
        }
        Book b = new Book();
        b.ask("hand", 1, 1, 0);
        b.ask("hand", 2, 1, 0);
        b.ask("hand", 1, 1, 0);
        b.article("a", 2);
        b.article("b", 2);
        b.article("c", 1);
        b.ask("strike", 1);
        due("its FIELD", b.ask("give", 0, 0), 1);
        due("not its FIELD", b.ask("give", 0, 1), 0);
        due("STRUCK", b.ask("give", 1, 0), 0);
        b.ask("die", 2);
        due("dead", b.ask("give", 0, 2), 0);
        due("still GIVEN to the first", b.ask("is", 0, 5), 0);
        b.ask("later", 0);
        b.write(2, 0);
        b.ask("set", 0);
        due("SET", b.ask("give", 2, 0), 0);
        due("SET, though STRUCK", b.ask("give", 1, 0), 0);
        due("LATER", b.ask("give", 0, 0), 1);
    }

    private static void rulesOfGiving() {
        Book b = new Book();
        b.writer(1);
        b.article("a", 1);
        b.article("f", 1);
        b.article("g", 1);
        b.ask("later", 2);
        b.forVolume("write 1=2;", 1);
        due("the rule for its VOLUME", b.ask("give", 1, 0), 0);
        due("not for another", b.ask("give", 0, 0), 1);
        due("LATER: for all alone", b.ask("give", 2, 0), 1);
        b.forAll("write volume=6;");
        due("LATER: volume 6", b.ask("give", 2, 0), 1);
        due("0 is not 6", b.ask("give", 0, 0), 0);
        b.forVolume("write volume=1;", 1);
        due("volume 1", b.ask("give", 1, 0), 1);
        b.ask("set", 5);
        b.article("z", 1);
        due("one that counts as LATER", b.ask("give", 3, 0), 1);
        Book e = new Book();
        for (int i = 0; i < 5; i++) {
            e.writer(1);
        }
        e.article("a", 9);
        e.ask("enemies", 0, 1);
        e.ask("enemies", 2, 0);
        e.ask("enemies", 2, 4);
        e.ask("give", 0, 0);
        due("who wrote nothing has no say", e.ask("give", 0, 1), 1);
        e.ask("give", 0, 0);
        e.ask("line", 0, NONE, 0);
        due("an ENEMY wrote a line", e.ask("give", 0, 1), 0);
        due("an ENEMY of the other side", e.ask("give", 0, 2), 0);
        due("no ENEMY", e.ask("give", 0, 3), 1);
        e.ask("line", 0, NONE, 0);
        due("an ENEMY wrote the first", e.ask("give", 0, 1), 0);
        e.ask("enemies", 3, 1);
        due("no ENEMY of any", e.ask("give", 0, 4), 1);
        e.ask("line", 0, NONE, 0);
        due("of two of three", e.ask("give", 0, 2), 0);
        due("itself", e.ask("give", 0, 0), 1);
        e.ask("die", 0);
        due("a dead ENEMY's line", e.ask("give", 0, 1), 0);
    }

    private static void lines() {
        says("LINES (at most 300) are written by the HAND to which the ARTICLE is GIVEN: each leans on a FACT, on an earlier LINE, or on nothing, and names a TERM (0 .. 30).");
        Book b = new Book();
        b.writer(1);
        b.writer(1);
        b.article("a", 200);
        b.article("b", 200);
        due("not GIVEN", b.ask("line", 0, NONE, 0), NONE);
        b.ask("give", 0, 0);
        b.ask("give", 1, 0);
        b.ask("tell", 0, 5, 0);
        b.ask("tell", 39, 6, 0);
        due("FACT 0", b.ask("line", 0, 0, 0), 0);
        b.ask("give", 0, 1);
        due("FACT 39", b.ask("line", 0, 39, 30), 1);
        due("the HAND of the first", b.ask("told", 0, 7), 0);
        due("the HAND of the second", b.ask("told", 1, 7), 1);
        due("no FACT 40", b.ask("line", 0, 40, 0), NONE);
        due("the LINE itself", b.ask("line", 0, 102, 0), NONE);
        due("99 is no LINE", b.ask("line", 0, 99, 0), NONE);
        due("LINE 0", b.ask("line", 0, 100, 0), 2);
        due("the LINE ahead", b.ask("line", 0, 102, 0), 3);
        due("nothing", b.ask("line", 0, NONE, 0), 4);
        due("TERM 31", b.ask("line", 0, NONE, 31), NONE);
        due("TERM -1", b.ask("line", 0, NONE, -1), NONE);
        for (int i = 5; i < 300; i++) {
            due("more", b.ask("line", i < 200 ? 0 : 1, NONE, 0), i);
        }
        due("301", b.ask("line", 1, NONE, 0), NONE);
        due("300", b.ask("count", 3), 300);
        due("the last", b.ask("told", 299, 4), 1);

        says("An ARTICLE is DONE, if it has ASKED lines.");
        Book d = new Book();
        d.writer(1);
        d.article("a", 2);
        d.ask("give", 0, 0);
        due("none", d.ask("is", 0, 6), 0);
        d.ask("line", 0, NONE, 0);
        due("one", d.ask("is", 0, 6), 0);
        d.ask("line", 0, NONE, 0);
        due("two", d.ask("is", 0, 6), 1);
        due("no third", d.ask("line", 0, NONE, 0), NONE);

        says("PAY of a LINE is pay K then (asked as for write; 0 at least).");
        pay("5-6", 0);
        pay("5-5", 0);
        pay("5-4", 1);
        pay("lines", 0);
        pay("late", 1);
        Book p = new Book();
        p.writer(1);
        p.article("a", 9);
        p.article("b", 10009);
        p.article("c", 20009);
        for (int i = 0; i < 3; i++) {
            p.ask("give", i, 0);
        }
        p.forAll("pay short 11;pay plain 12;pay long 13;");
        for (int i = 0; i < 3; i++) {
            p.ask("line", i, NONE, 0);
            due("K " + i, p.ask("told", i, 6), 11 + i);
        }
        p.forVolume("pay plain lines*10+facts;", 0);
        p.ask("tell", 0, 1, 0);
        p.ask("line", 1, 0, 0);
        due("as it is written", p.ask("told", 3, 6), 10);
        p.ask("line", 1, 0, 0);
        due("the next", p.ask("told", 4, 6), 21);
        due("the earlier stays", p.ask("told", 1, 6), 12);
    }

    private static void deaths() {
        says("A HAND may DIE: ARTICLES GIVEN to it that aren't DONE, nor STRUCK, HANG, till they are GIVEN on.");
        Book b = new Book();
        b.writer(1);
        b.writer(1);
        for (int i = 0; i < 7; i++) {
            b.article("a", 2);
            b.ask("give", i, i < 6 ? 0 : 1);
        }
        b.write(0, 0);
        b.ask("line", 1, NONE, 0);
        b.ask("strike", 2);
        b.ask("later", 3);
        b.ask("give", 4, 1);
        due("how many", b.ask("die", 0), 3);
        int[] hang = {0, 1, 0, 1, 0, 1, 0};
        for (int i = 0; i < 7; i++) {
            due("ENTRY " + i, b.ask("is", i, 8), hang[i]);
        }
        due("only once", b.ask("die", 0), NONE);
        b.ask("give", 1, 1);
        due("GIVEN on", b.ask("is", 1, 8), 0);
        b.ask("strike", 5);
        due("STRUCK since", b.ask("is", 5, 8), 0);
        due("the other, with what it got", b.ask("die", 1), 3);
        due("HANGS again", b.ask("is", 1, 8), 1);

        says("TAKERS of one that HANGS: HANDS to whom it may be GIVEN.");
        Book t = new Book();
        t.ask("hand", 1, 1, 0);
        t.ask("hand", 1, 2, 0);
        t.ask("hand", 2, 3, 0);
        t.ask("hand", 1, 4, 0);
        t.ask("hand", 1, 5, 0);
        t.ask("hand", 3, 6, 0);
        t.article("a", 2);
        t.ask("give", 0, 0);
        t.ask("line", 0, NONE, 0);
        t.ask("enemies", 0, 3);
        t.ask("die", 4);
        due("lives", t.ask("takers", 0), NONE);
        t.ask("die", 0);
        due("1 and 5", t.ask("takers", 0), 2 + 32);
        t.forAll("write skill>2;");
        due("5 alone", t.ask("takers", 0), 32);
        t.forAll("write skill>6;");
        due("nobody", t.ask("takers", 0), 0);
        for (int i = 6; i < 12; i++) {
            t.ask("hand", 255, 20, 0);
        }
        due("up to the twelfth", t.ask("takers", 0), 4095 - 63);
        Book first = new Book();
        first.writer(1);
        first.writer(1);
        first.article("a", 1);
        first.ask("give", 0, 1);
        first.ask("die", 1);
        due("from the first on", first.ask("takers", 0), 1);
    }

    // ---- 5

    private static void facts() {
        says("==== 5. FACTS have numbers 0 .. 39: told to be v (0 .. 999) by a source, on NOW.");
        Book b = new Book();
        due("FACT 0", b.ask("tell", 0, 0, 0), 1);
        due("FACT 39", b.ask("tell", 39, 999, 5), 1);
        due("FACT 40", b.ask("tell", 40, 0, 0), 0);
        due("FACT -1", b.ask("tell", -1, 0, 0), 0);
        due("1000", b.ask("tell", 0, 1000, 0), 0);
        due("-1", b.ask("tell", 0, -1, 0), 0);
        due("by nobody", b.ask("tell", 0, 0, -1), 0);
        due("the least", b.ask("known", 0, 0, 0), 0);
        due("the most", b.ask("known", 39, 0, 0), 999);
        due("its source", b.ask("known", 39, 0, 1), 5);
        due("source 0", b.ask("known", 0, 0, 1), 0);
        b.ask("go", 7);
        b.ask("tell", 1, 3, 2);
        due("on NOW", b.ask("known", 1, 7, 0), 3);
        due("not ahead of it", b.ask("known", 1, 6, 0), NONE);

        says("AS KNOWN on a DAY: the latest told up to it (NONE without).");
        b.ask("tell", 0, 4, 1);
        b.ask("tell", 0, 5, 2);
        due("the latest of one DAY", b.ask("known", 0, 7, 0), 5);
        due("by whom", b.ask("known", 0, 7, 1), 2);
        due("the DAY ahead", b.ask("known", 0, 6, 0), 0);
        due("later on", b.ask("known", 0, 2000, 0), 5);
        b.ask("go", 1);
        b.ask("tell", 0, 6, 3);
        due("the DAY ahead", b.ask("known", 0, 7, 0), 5);
        due("that DAY", b.ask("known", 0, 8, 0), 6);
        due("never told", b.ask("known", 2, 8, 0), NONE);

        says("A LINE keeps what its FACT was as it was written.");
        Book c = new Book();
        c.writer(1);
        c.article("a", 5);
        c.ask("give", 0, 0);
        c.ask("tell", 0, 0, 0);
        c.ask("line", 0, 0, 0);
        c.ask("tell", 0, 8, 0);
        c.ask("line", 0, 0, 0);
        c.ask("line", 0, 101, 0);
        c.ask("line", 0, NONE, 0);
        due("then", c.ask("told", 0, 0), 0);
        due("later", c.ask("told", 1, 0), 8);
        due("without a FACT", c.ask("told", 2, 0), NONE);
        due("without anything", c.ask("told", 3, 0), NONE);
    }

    private static void staleLines() {
        says("STALE on a DAY (0 .. 2000) is a LINE whose FACT is KNOWN otherwise then than it keeps (with ERRATA told up to that DAY; also if it isn't KNOWN then), or which leans on a STALE one.");
        Book b = new Book();
        b.writer(1);
        b.article("a", 6);
        b.ask("give", 0, 0);
        b.ask("go", 5);
        b.ask("tell", 0, 1, 0);
        b.ask("line", 0, 0, 0);
        b.ask("line", 0, 100, 0);
        b.ask("line", 0, 101, 0);
        b.ask("line", 0, NONE, 0);
        b.ask("line", 0, 103, 0);
        b.ask("line", 0, 0, 0);
        b.ask("set", 0);
        b.ask("go", 5);
        b.ask("tell", 0, 2, 0);
        b.ask("go", 5);
        b.ask("erratum", 0, 1, 2);
        int[] days = {-1, 0, 4, 5, 9, 10, 14, 15, 2000, 2001};
        int[] first = {0, 1, 1, 0, 0, 1, 1, 0, 0, 0};
        int[] other = {0, 1, 1, 0, 0, 1, 1, 1, 1, 0};
        for (int i = 0; i < days.length; i++) {
            due("on a FACT, DAY " + days[i], b.ask("stale", 0, days[i]), first[i]);
            due("on a LINE, DAY " + days[i], b.ask("stale", 1, days[i]), first[i]);
            due("on a LINE on a LINE, DAY " + days[i], b.ask("stale", 2, days[i]), first[i]);
            due("on nothing, DAY " + days[i], b.ask("stale", 3, days[i]), 0);
            due("on one on nothing, DAY " + days[i], b.ask("stale", 4, days[i]), 0);
            due("without an ERRATUM, DAY " + days[i], b.ask("stale", 5, days[i]), other[i]);
        }

        says("A LINE that isn't SET may be MENDED: it keeps what is KNOWN NOW (if it leans on a FACT).");
        Book m = new Book();
        m.writer(1);
        m.article("a", 3);
        m.ask("give", 0, 0);
        m.ask("tell", 0, 1, 0);
        m.ask("line", 0, 0, 0);
        m.ask("line", 0, 100, 0);
        m.ask("line", 0, NONE, 0);
        m.ask("go", 1);
        m.ask("tell", 0, 0, 0);
        due("MENDED", m.ask("mend", 0), 0);
        due("it keeps", m.ask("told", 0, 0), 0);
        due("STALE the DAY ahead", m.ask("stale", 0, 0), 1);
        due("so is what leans on it", m.ask("stale", 1, 0), 1);
        due("not NOW", m.ask("stale", 1, 1), 0);
        due("on a LINE", m.ask("mend", 1), NONE);
        due("on nothing", m.ask("mend", 2), NONE);
        m.ask("tell", 0, 2, 0);
        m.ask("set", 0);
        due("SET", m.ask("mend", 0), NONE);
        due("as it was", m.ask("told", 0, 0), 0);
    }

    private static void errata() {
        says("One that is SET gets an ERRATUM: what it should keep; they are applied in order: an ERRATUM says what is kept and what should be: where something else is kept as it is its turn, it MISSES.");
        Book b = new Book();
        b.writer(1);
        b.article("a", 2);
        b.article("f", 1);
        b.ask("give", 0, 0);
        b.ask("give", 1, 0);
        b.ask("tell", 0, 1, 0);
        b.ask("line", 0, 0, 0);
        b.ask("line", 0, 0, 0);
        b.ask("line", 1, 0, 0);
        due("not SET", b.ask("erratum", 2, 1, 2), NONE);
        b.ask("set", 0);
        due("not SET, though another VOLUME is", b.ask("erratum", 2, 1, 2), NONE);
        int[][] rows = {{0, 2, 3}, {0, 1, 2}, {0, 2, 3}, {0, 1, 9}, {0, 3, 3}, {0, 3, 0}, {1, 0, 5}, {0, 0, 999}, {0, 999, 1}};
        int[] missed = {1, 0, 0, 1, 0, 0, 1, 0, 0};
        int[] kept = {1, 2, 3, 3, 3, 0, 0, 999, 1};
        for (int i = 0; i < rows.length; i++) {
            due("ERRATUM " + i, b.ask("erratum", rows[i][0], rows[i][1], rows[i][2]), i);
            due("applied " + i, b.ask("told", 0, 1), kept[i]);
        }
        for (int i = 0; i < rows.length; i++) {
            due("MISSES " + i, b.ask("misses", i), missed[i]);
        }
        due("another LINE", b.ask("told", 1, 1), 1);
        due("what it keeps stays", b.ask("told", 0, 0), 1);
    }

    // ---- 6

    private static void setting() {
        says("==== 6. SET is a VOLUME: if all ARTICLES of it that aren't STRUCK or LATER are DONE, and must holds for each (as for write; skill and age 0 without a HAND), its ENTRIES in ORDER are laid: an ARTICLE takes its LINES, a POINTER 1, a PLATE 10 lines, 40 lines a PAGE; STRUCK and LATER ones nothing.");
        Book b = new Book();
        b.writer(1);
        b.article("e", 20);
        b.article("a", 29);
        b.plate("b", 0, 1);
        b.pointer("c", 0);
        b.article("aa", 7);
        b.article("ab", 7);
        b.plate("ac", 0, 1);
        b.pointer("ad", 0);
        b.write(0, 0);
        due("ENTRY 1 is not DONE", b.ask("set", 0), NONE);
        b.write(1, 0);
        b.ask("strike", 4);
        due("ENTRY 5 is not DONE", b.ask("set", 0), NONE);
        b.ask("later", 5);
        b.ask("strike", 6);
        b.ask("later", 7);
        b.article("f", 1);
        // a 29 lines, b 10, c 1, e 20: 60 lines
        due("2 PAGES", b.ask("set", 0), 2);
        int[] pages = {2, 1, 1, 1, NONE, NONE, NONE, NONE};
        for (int i = 0; i < pages.length; i++) {
            due("PAGE of ENTRY " + i, b.ask("page", i), pages[i]);
        }
        due("the first LINE of e", b.ask("told", 0, 5), 2);
        due("the last LINE of a", b.ask("told", 48, 5), 1);
        due("another VOLUME isn't DONE", b.ask("set", 1), NONE);
        pagesOf();
        must();

        says("PAGES are from 1 on in each VOLUME.");
        Book p = new Book();
        p.pointer("z", p.article("a", 1));
        p.pointer("f", 0);
        due("VOLUME 5", p.ask("set", 5), 1);
        due("VOLUME 1", p.ask("set", 1), 1);
        due("PAGE 1", p.ask("page", 1), 1);
        due("PAGE 1", p.ask("page", 2), 1);

        says("Its ORDER stands.");
        Book o = new Book();
        o.article("z", 1);
        o.pointer("a b", 0);
        o.pointer("aa", 0);
        o.pointer("a1", 0);
        order(o, 0, 1, 3, 2);
        o.ask("set", 0);
        o.forAll("blanks pass;numbers last;skip a;");
        order(o, 0, 1, 3, 2);
        o.pointer("aa", 0);
        order(o, 0, 1, 3, 2);
        due("another is LATER", o.ask("volume", 4), 6);

        says("(STRUCK ENTRIES of it are of it for good, too, those told LATER are not.)");
        Book s = new Book();
        s.article("7", 1);
        s.article("8", 1);
        s.ask("strike", 0);
        s.ask("later", 1);
        s.ask("set", 0);
        s.forAll("numbers last;");
        due("STRUCK", s.ask("volume", 0), 0);
        due("in its ORDER", s.ask("at", 0, 0), 0);
        due("STRUCK still", s.ask("is", 0, 7), 1);
        due("told LATER", s.ask("volume", 1), 6);
        due("not in its ORDER", s.ask("at", 0, 1), NONE);
        due("its VOLUME isn't SET now", s.ask("is", 1, 9), 0);
        due("LATER still", s.ask("is", 1, 7), 2);
    }

    private static void pagesOf() {
        int[] lines = {0, 1, 39, 40, 41, 79, 80, 81};
        int[] pages = {0, 1, 1, 1, 2, 2, 2, 3};
        for (int i = 0; i < lines.length; i++) {
            Book b = new Book();
            b.writer(1);
            b.article("z", 1);
            if (lines[i] > 0) {
                b.article("a", lines[i]);
                b.write(1, 0);
            }
            due(lines[i] + " lines", b.ask("set", 0), pages[i]);
            b.pointer("f", 0);
            due("a POINTER takes 1", b.ask("set", 1), 1);
        }
        Book b = new Book();
        b.article("z", 1);
        for (int i = 0; i < 4; i++) {
            b.plate("a", 0, 1);
        }
        due("PLATES take 40", b.ask("set", 0), 1);
        for (int i = 0; i < 4; i++) {
            b.plate("f", 0, 1);
        }
        b.pointer("g", 0);
        due("and 1", b.ask("set", 1), 2);
        due("the POINTER begins", b.ask("page", 9), 2);
    }

    private static void must() {
        Book b = new Book();
        b.ask("hand", 255, 7, -365 * 3);
        b.article("a", 1);
        b.article("b", 2);
        b.article("c", 2);
        b.write(0, 0);
        b.write(1, 0);
        b.ask("strike", 2);
        b.article("z", 1);
        b.ask("give", 3, 0);
        b.forAll("must asked=2;");
        due("not for ENTRY 0", b.ask("set", 0), NONE);
        b.forVolume("must lines=asked and skill=7 and age=3 and late=1 and volume=0 and field=0 and points=0 and facts=0;", 0);
        due("as for write", b.ask("set", 0), 1);
        b.article("f", 1);
        b.ask("later", 4);
        b.pointer("g", 0);
        b.plate("h", 0, 1);
        due("not asked of STRUCK, LATER, POINTERS, PLATES", b.ask("set", 1), 1);
    }

    private static void pointers() {
        says("A POINTER leads to what it points at; through POINTERS on.");
        Book b = new Book();
        b.article("a", 1);
        b.plate("b", 0, 1);
        b.pointer("c", 0);
        b.pointer("d", 2);
        b.pointer("e", 1);
        due("what it points at", b.ask("ends", 2), 0);
        due("through a POINTER", b.ask("ends", 3), 0);
        b.ask("points", 2, 4);
        due("elsewhere", b.ask("ends", 2), 1);
        due("through two", b.ask("ends", 3), 1);
        for (int i = 5; i < 60; i++) {
            b.pointer("f", i - 1);
        }
        due("through 55", b.ask("ends", 59), 1);
        due("and its PROMISE", b.ask("promise", 59), 1);

        says("It ENDS at an ARTICLE or PLATE; or it is in a RING.");
        due("at a PLATE", b.ask("ends", 4), 1);
        b.ask("points", 4, 0);
        due("at an ARTICLE", b.ask("ends", 59), 0);
        b.ask("points", 4, 4);
        due("a RING of one", b.ask("ends", 4), NONE);
        due("that leads into it", b.ask("ends", 59), NONE);
        b.ask("points", 4, 59);
        due("a RING of 56", b.ask("ends", 30), NONE);
        due("its PROMISE", b.ask("promise", 30), 3);
        b.ask("points", 2, 3);
        due("a RING of two", b.ask("promise", 3), 3);
        Book whole = new Book();
        whole.article("a", 1);
        for (int i = 1; i < 60; i++) {
            whole.pointer("b", i - 1);
        }
        due("through all 59", whole.ask("ends", 59), 0);
        due("its PROMISE", whole.ask("promise", 59), 1);
        whole.ask("strike", 30);
        due("STRUCK far on the way", whole.ask("promise", 59), 2);
        whole.ask("strike", 1);
        due("STRUCK at the end of the way", whole.ask("promise", 29), 2);
    }

    private static void promises() {
        says("Its PROMISE: 0 KEPT: it ENDS at one in a VOLUME that is SET (not STRUCK, nor LATER); 1 OPEN: at one that isn't SET yet (nor STRUCK, LATER); 2 BROKEN: at one that is STRUCK or LATER; 3 in a RING.");
        Book b = new Book();
        b.plate("a", b.article("z", 1), 1);
        b.plate("b", 0, 1);
        b.plate("c", 0, 1);
        for (int i = 0; i < 4; i++) {
            b.pointer("p", i);
        }
        b.ask("strike", 2);
        b.ask("later", 3);
        int[] open = {1, 1, 2, 2};
        for (int i = 0; i < 4; i++) {
            due("ahead of setting " + i, b.ask("promise", 4 + i), open[i]);
        }
        b.ask("set", 0);
        int[] kept = {1, 0, 2, 2};
        for (int i = 0; i < 4; i++) {
            due("after setting " + i, b.ask("promise", 4 + i), kept[i]);
        }
        b.plate("d", 0, 1);
        b.ask("points", 4, 8);
        due("at one that counts as LATER", b.ask("promise", 4), 2);
        b.ask("points", 4, 4);
        due("in a RING", b.ask("promise", 4), 3);
        b.ask("points", 5, 4);
        due("that leads into a RING", b.ask("promise", 5), 3);

        says("(A POINTER on the way that is STRUCK or LATER breaks it, too.)");
        Book w = new Book();
        w.article("z", 1);
        w.pointer("p", 0);
        w.pointer("q", 1);
        w.pointer("r", 2);
        w.pointer("s", 0);
        w.pointer("t", 4);
        due("whole", w.ask("promise", 3), 1);
        w.ask("strike", 1);
        due("STRUCK next to it", w.ask("promise", 2), 2);
        due("STRUCK farther on", w.ask("promise", 3), 2);
        w.ask("later", 4);
        due("LATER on the way", w.ask("promise", 5), 2);
        due("it ENDS all the same", w.ask("ends", 5), 0);

        says("PROMISED by a HAND's ARTICLES: how many POINTERS that aren't STRUCK END at those that HANG.");
        Book h = new Book();
        h.writer(1);
        h.writer(1);
        for (int i = 0; i < 4; i++) {
            h.article("a", 1);
            h.ask("give", i, i < 3 ? 0 : 1);
        }
        int[] to = {0, 4, 0, 1, 2, 3, 9, 0};
        for (int i = 0; i < to.length; i++) {
            h.pointer("p", to[i]);
        }
        h.write(1, 0);
        due("it lives", h.ask("promised", 0), 0);
        h.ask("die", 0);
        // 4, 5, 6, 8 and 11; 7 ENDS at a DONE one, 9 and 10 at one of another
        due("five", h.ask("promised", 0), 5);
        h.ask("strike", 4);
        due("not the STRUCK one, but what leads through it", h.ask("promised", 0), 4);
        h.ask("later", 11);
        due("a LATER one, too", h.ask("promised", 0), 4);
        h.ask("strike", 2);
        due("a STRUCK ARTICLE doesn't HANG", h.ask("promised", 0), 3);
        due("of the other", h.ask("promised", 1), 0);
        h.ask("die", 1);
        due("of the other", h.ask("promised", 1), 2);
        h.ask("points", 9, 9);
        due("a RING ENDS nowhere", h.ask("promised", 1), 0);
    }

    private static void subscribers() {
        says("CUT: a STRUCK ENTRY of a VOLUME that is SET: not laid.");
        Book c = new Book();
        c.writer(1);
        c.article("a", 1);
        c.article("b", 1);
        c.write(0, 0);
        c.write(1, 0);
        c.ask("strike", 0);
        c.ask("set", 0);
        due("no PAGE", c.ask("page", 0), NONE);
        due("nor have its LINES one", c.ask("told", 0, 5), NONE);
        due("what is laid has", c.ask("told", 1, 5), 1);
        due("it has no part in the INDEX", c.ask("index", 0, 0, 1), NONE);

        says("SUBSCRIBERS (0 .. 9, each from a VOLUME on) pay PRICE for each VOLUME that is SET; each is OWED owe (asked: late: how many are STRUCK in the VOLUME; lines: lines laid in it; volume; others 0), by the rule for it on the DAY on which it was SET (0 .. PRICE, the nearer end).");
        Book b = new Book();
        due("0", b.ask("subscribe", 0, 0, 999), 1);
        due("9", b.ask("subscribe", 9, 1, 999), 1);
        due("10", b.ask("subscribe", 10, 0, 999), 0);
        due("-1", b.ask("subscribe", -1, 0, 999), 0);
        b.ask("subscribe", 1, 0, 230);
        b.ask("subscribe", 2, 0, 231);
        b.ask("subscribe", 3, 2, 999);
        b.article("z", 1);
        b.writer(3);
        b.article("f", 2);
        b.write(1, 0);
        b.plate("g", 0, 1);
        b.pointer("h", 1);
        b.article("i", 7);
        b.pointer("j", 0);
        b.article("fa", 7);
        b.ask("strike", 4);
        b.ask("strike", 5);
        b.ask("later", 6);
        b.forAll("owe 100*late+2*lines+5*volume+asked+facts+points+field+skill+age;");
        due("not SET", b.ask("owed", 0, 1), NONE);
        b.ask("set", 1);
        // 2 STRUCK, 2 + 10 + 1 lines laid
        due("OWED", b.ask("owed", 0, 1), 231);
        due("from this VOLUME on", b.ask("owed", 9, 1), 231);
        due("PRICE at most", b.ask("owed", 1, 1), 230);
        due("PRICE", b.ask("owed", 2, 1), 231);
        due("from the next VOLUME on", b.ask("owed", 3, 1), NONE);
        b.ask("go", 1);
        b.forAll("owe 0-1;");
        due("the rule on that DAY", b.ask("owed", 0, 1), 231);
        b.ask("set", 2);
        due("0 at least", b.ask("owed", 0, 2), 0);
        b.forVolume("owe 7;", 3);
        b.ask("set", 3);
        due("the rule for it", b.ask("owed", 0, 3), 7);
        b.ask("go", 1);
        b.forAll("owe 8;");
        due("not a later one", b.ask("owed", 0, 3), 7);
        b.ask("set", 4);
        due("owe as it is", b.ask("owed", 3, 4), 8);
    }

    // ---- 7

    private static void lengths() {
        says("==== 7. LENGTHS: for a VOLUME that isn't SET, ARTICLES to be laid get lengths from least K to most K (both as the rules are NOW; at least 1, at most 400; least counts as most, if above it) so that all lines of the VOLUME (POINTERS, PLATES, too) are a number of whole sheets (s lines, 1 .. 400): the least sum of how much each differs from ASKED, of like ones the fewest lines of all; of like ones each has ASKED (or the end of least and most that is nearer), but the earliest ones in ORDER differ more, as much as they can, till the sum is reached.");
        Book b = new Book();
        b.article("b", 10);
        b.article("a", 10);
        b.forAll("least short 8;most short 12;");
        int[] s = {1, 20, 23, 24, 8, 16, 17, 19, 21, 22, 18, 400};
        int[] sum = {0, 0, 3, 4, 4, 4, 3, 1, 1, 2, 2, NONE};
        int[] a = {10, 10, 12, 12, 8, 8, 8, 9, 11, 12, 8, NONE};
        int[] second = {10, 10, 11, 12, 8, 8, 9, 10, 10, 10, 10, NONE};
        for (int i = 0; i < s.length; i++) {
            due("sheets of " + s[i], b.ask("lengths", 0, s[i]), sum[i]);
            due("a, sheets of " + s[i], b.ask("length", 1, s[i]), a[i]);
            due("b, sheets of " + s[i], b.ask("length", 0, s[i]), second[i]);
        }
        due("sheets of 0", b.ask("lengths", 0, 0), NONE);
        due("sheets of 401", b.ask("lengths", 0, 401), NONE);
        due("an empty VOLUME is no sheet at all", b.ask("lengths", 1, 400), 0);
        b.pointer("c", 0);
        b.plate("d", 0, 1);
        b.pointer("e", 0);
        b.article("e", 200);
        b.ask("strike", 4);
        b.ask("later", 5);
        due("POINTERS and PLATES, too", b.ask("lengths", 0, 31), 0);
        due("and they stay", b.ask("lengths", 0, 32), 1);
        due("STRUCK: no length", b.ask("length", 4, 31), NONE);
        due("LATER: no length", b.ask("length", 5, 31), NONE);
        b.ask("strike", 0);
        b.ask("strike", 1);
        due("nothing that could differ", b.ask("lengths", 0, 11), 0);
        due("can't be", b.ask("lengths", 0, 10), NONE);
        b.ask("set", 0);
        due("SET", b.ask("lengths", 0, 11), NONE);
        lengthEnds();

        says("NONE, if it can't be.");
        due("between two numbers of sheets", fitting("least short 5;most short 6;", 6, 4), NONE);
        due("within", fitting("least short 5;most short 6;", 6, 5), 1);
        due("above the most", fitting("most short 6;", 6, 7), NONE);
        due("below the least", fitting("least short 6;most short 6;", 6, 5), NONE);
        due("at the most", fitting("most short 7;", 6, 7), 1);
    }

    /** The sum of differences for one ARTICLE alone. */
    private static int fitting(String rules, int asked, int s) {
        Book b = new Book();
        b.article("a", asked);
        b.forAll(rules);
        return b.ask("lengths", 0, s);
    }

    private static void lengthEnds() {
        due("least 1", fitting("least short 0;", 2, 1), 0);
        due("most 400", fitting("most short 99999;", 200, 400), 200);
        due("least is 1, though told below", fitting("least short 0-5;most short 0-5;", 9, 1), 8);
        due("least is 400, though told above", fitting("least short 401;most short 401;", 200, 1), 200);
        due("least counts as most", fitting("least short 50;most short 3;", 10, 1), 7);
        due("from least on", fitting("least short 15;", 10, 1), 5);
        due("up to most", fitting("most short 4;", 10, 1), 6);
        due("from least on, farther", fitting("least short 15;", 10, 16), 6);
        due("up to most, farther", fitting("most short 4;", 10, 3), 7);
        due("of like ones the fewest lines", fitting("", 6, 4), 2);
        due("up, as that is nearer", fitting("", 7, 4), 1);
        due("down, though up would be nearer", fitting("most short 7;", 7, 4), 3);
        due("up, though down would be nearer", fitting("least short 5;", 5, 4), 3);
        Book b = new Book();
        b.article("a", 10);
        b.article("b", 10010);
        b.article("c", 20010);
        b.forAll("least plain 12;most long 7;");
        // 10, 12 and 7 lines: 29; the nearer ends differ by 5 already
        due("as near as can be", b.ask("lengths", 0, 29), 5);
        due("3 lines fewer", b.ask("lengths", 0, 26), 8);
        due("the earliest", b.ask("length", 0, 26), 7);
        due("at its end", b.ask("length", 1, 26), 12);
        due("at its end", b.ask("length", 2, 26), 7);
        b.forAll("least short 9;");
        due("as much as it can", b.ask("length", 0, 26), 9);
        due("not below least", b.ask("length", 1, 26), 12);
        due("till the sum is reached", b.ask("length", 2, 26), 5);
        b.ask("go", 1);
        b.forAll("least short 10;most short 10;least plain asked-lines;most plain asked+points+late+skill+age;");
        due("by its names", b.ask("lengths", 0, 27), 3);
        due("without a HAND no more", b.ask("lengths", 0, 28), NONE);
        b.ask("give", 1, b.ask("hand", 1, 6, -365 * 2));
        due("the rules as they are NOW", b.ask("length", 1, 36), 19);
        b.forVolume("most plain 8;", 0);
        due("for its VOLUME", b.ask("length", 1, 1), 8);
    }

    /** ARTICLES 0 .. with these lines ASKED, of VOLUME 0. */
    private static Book lacking(int... asked) {
        Book b = new Book();
        for (int n : asked) {
            b.article("a", n);
        }
        return b;
    }

    private static void giving() {
        says("GIVING: 1 to 7 ARTICLES that aren't DONE, STRUCK or SET, nor GIVEN to one that lives, and 1 to 6 HANDS that live (bits of the first 30 ENTRIES, of HANDS): each ARTICLE to one of these to whom it may be GIVEN NOW, or to none, so that of each HAND the lines that all it gets lack, by SKILL (a begun DAY as a whole one), are not above so many DAYS (1 .. 400): as many ARTICLES as can be, of like ones the fewest lines that these lack, of like ones the first way (by ENTRIES, HANDS by numbers, none behind all).");
        Book b = new Book();
        for (int i = 0; i < 32; i++) {
            b.article("a", 1);
        }
        for (int i = 0; i < 12; i++) {
            b.writer(1);
        }
        due("no ARTICLE", b.ask("giving", 0, 1, 1), NONE);
        due("1", b.ask("giving", 1, 1, 1), 1);
        due("7", b.ask("giving", 127, 1, 7), 7);
        due("8", b.ask("giving", 255, 1, 400), NONE);
        due("no HAND", b.ask("giving", 1, 0, 1), NONE);
        due("6 HANDS", b.ask("giving", 127, 63, 1), 6);
        due("7 HANDS", b.ask("giving", 127, 127, 1), NONE);
        due("the 30th ENTRY", b.ask("giving", 1 << 29, 1, 1), 1);
        due("its HAND", b.ask("given", 1 << 29, 1, 1, 29), 0);
        due("the 31st", b.ask("giving", 1 << 30, 1, 1), NONE);
        due("the 32nd", b.ask("giving", 1 << 31, 1, 1), NONE);
        due("one of the first 30 and the 31st", b.ask("giving", 1 | 1 << 30, 1, 1), NONE);
        due("the twelfth HAND", b.ask("given", 1, 1 << 11, 1, 0), 11);
        due("a thirteenth", b.ask("giving", 1, 1 << 12, 1), NONE);
        due("one and a thirteenth", b.ask("giving", 1, 1 | 1 << 12, 1), NONE);
        due("0 DAYS", b.ask("giving", 1, 1, 0), NONE);
        due("400 DAYS", b.ask("giving", 1, 1, 400), 1);
        due("401 DAYS", b.ask("giving", 1, 1, 401), NONE);
        b.write(1, 0);
        due("DONE", b.ask("giving", 2, 1, 1), NONE);
        b.ask("strike", 2);
        due("STRUCK", b.ask("giving", 4, 1, 1), NONE);
        b.ask("give", 3, 1);
        due("GIVEN to one that lives", b.ask("giving", 8, 1, 1), NONE);
        b.ask("die", 1);
        due("GIVEN to a dead one", b.ask("giving", 8, 1, 1), 1);
        due("a dead HAND", b.ask("giving", 1, 2, 1), NONE);
        b.write(5, 2);
        b.ask("die", 2);
        due("DONE by a dead one", b.ask("giving", 32, 1, 1), NONE);
        due("one of two is dead", b.ask("giving", 1, 3, 1), NONE);
        b.ask("later", 4);
        due("LATER", b.ask("giving", 16, 1, 1), 1);
        b.plate("b", 0, 1);
        b.forAll("write skill=0;");
        due("to whom it may not be GIVEN", b.ask("giving", 1, 1, 400), 0);
        due("to none", b.ask("given", 1, 1, 400, 0), NONE);
        Book p = new Book();
        p.writer(1);
        p.pointer("a", p.plate("b", p.article("c", 1), 1));
        due("a PLATE", p.ask("giving", 2, 1, 1), NONE);
        due("a POINTER", p.ask("giving", 4, 1, 1), NONE);
        due("none such", p.ask("giving", 8, 1, 1), NONE);
        due("one such and one none such", p.ask("giving", 9, 1, 1), NONE);
    }

    private static void given(Book b, int hands, int days, int... want) {
        int articles = (1 << want.length) - 1;
        int many = 0;
        for (int i = 0; i < want.length; i++) {
            due("HAND of " + i + " in " + days, b.ask("given", articles, hands, days, i), want[i]);
            many += want[i] == NONE ? 0 : 1;
        }
        due("how many in " + days, b.ask("giving", articles, hands, days), many);
    }

    private static void waysOfGiving() {
        Book day = lacking(10);
        day.writer(3);
        given(day, 1, 3, NONE);
        given(day, 1, 4, 0);
        day.ask("give", 0, 0);
        day.ask("line", 0, NONE, 0);
        day.ask("die", 0);
        day.writer(3);
        given(day, 2, 3, 1);
        Book both = lacking(4, 4);
        both.writer(3);
        // 8 lines by 3 are 3 DAYS, though 4 lines are 2 each
        given(both, 1, 3, 0, 0);
        given(both, 1, 2, 0, NONE);
        Book many = lacking(6, 3, 3);
        many.writer(1);
        given(many, 1, 6, NONE, 0, 0);
        given(many, 1, 5, NONE, 0, NONE);
        Book few = lacking(5, 3, 4);
        few.writer(1);
        given(few, 1, 5, NONE, 0, NONE);
        given(few, 1, 7, NONE, 0, 0);
        given(few, 1, 8, NONE, 0, 0);
        given(few, 1, 11, NONE, 0, 0);
        given(few, 1, 12, 0, 0, 0);
        Book first = lacking(5, 5);
        first.writer(1);
        first.writer(1);
        given(first, 3, 5, 0, 1);
        given(first, 3, 10, 0, 0);
        given(first, 1, 5, 0, NONE);
        Book room = lacking(4, 6, 6, 4);
        room.writer(1);
        room.writer(1);
        // 4 and 6 each: the first ARTICLE still goes to the first HAND
        given(room, 3, 10, 0, 0, 1, 1);
        Book rest = lacking(3, 5, 5, 2);
        rest.writer(1);
        rest.writer(2);
        given(rest, 3, 5, 0, 1, 1, 0);
        Book fields = new Book();
        fields.article("a", 1001);
        fields.article("a", 1);
        fields.ask("hand", 1, 1, 0);
        fields.ask("hand", 3, 1, 0);
        given(fields, 3, 1, 1, 0);
        fields.ask("enemies", 0, 1);
        fields.ask("give", 1, 1);
        given(fields, 1, 1, NONE);
        Book needed = new Book();
        needed.article("a", 1);
        needed.article("a", 1001);
        needed.ask("hand", 3, 1, 0);
        needed.ask("hand", 1, 1, 0);
        // the second ARTICLE needs the first HAND
        given(needed, 3, 1, 1, 0);
        Book late = lacking(2, 2);
        late.writer(9);
        late.forAll("write late=0;");
        // late is as it is NOW, whatever the HAND gets by this way
        given(late, 1, 1, 0, 0);
        Book lines = lacking(6, 6, 5);
        lines.writer(1);
        lines.writer(1);
        given(lines, 3, 6, 0, NONE, 1);
        Book full = lacking(200, 200, 200, 200, 200, 200, 200);
        full.writer(1);
        given(full, 1, 400, 0, 0, NONE, NONE, NONE, NONE, NONE);
    }

    private static void index() {
        says("INDEX: of a TERM the PAGES in a SET VOLUME that have a LINE naming it, each once, in order.");
        Book b = new Book();
        b.writer(1);
        b.article("c", 1);
        b.article("b", 81);
        b.article("a", 39);
        for (int i = 0; i < 3; i++) {
            b.ask("give", i, 0);
        }
        b.ask("line", 0, NONE, 5);
        for (int i = 0; i < 39; i++) {
            b.ask("line", 2, NONE, i < 38 ? 1 : 5);
        }
        for (int i = 0; i < 81; i++) {
            b.ask("line", 1, NONE, i == 0 || i == 80 ? 0 : i == 1 || i == 2 ? 30 : 2);
        }
        b.ask("set", 0);
        int[] terms = {0, 1, 2, 5, 30, 3};
        int[][] pages = {{1, 3}, {1}, {2, 3}, {1, 4}, {2}, {}};
        for (int i = 0; i < terms.length; i++) {
            for (int k = 0; k <= pages[i].length; k++) {
                due("TERM " + terms[i] + ", " + k, b.ask("index", terms[i], 0, k), k < pages[i].length ? pages[i][k] : NONE);
            }
        }
        due("an OPEN VOLUME", b.ask("index", 1, 1, 0), NONE);
        b.ask("set", 1);
        due("a VOLUME without LINES", b.ask("index", 1, 1, 0), NONE);
    }

    /** A SET VOLUME whose LINES keep these, each of a FACT of its own; those of the bits are WRONG. */
    private static Book laid(int wrong, int... kept) {
        Book b = new Book();
        b.writer(1);
        b.article("a", kept.length);
        b.ask("give", 0, 0);
        for (int i = 0; i < kept.length; i++) {
            b.ask("tell", i, kept[i], 0);
            b.ask("line", 0, i, 0);
        }
        b.ask("set", 0);
        for (int i = 0; i < kept.length; i++) {
            if ((wrong >> i & 1) != 0) {
                b.ask("tell", i, kept[i] == 0 ? 1 : 0, 0);
            }
        }
        return b;
    }

    private static void stolen(Book b, int changes, int shared, int... row) {
        b.ask("forget");
        for (int number : row) {
            b.ask("steal", number);
        }
        due("CHANGES of " + row.length, b.ask("thief", 0, 0), changes);
        due("SHARED of " + row.length, b.ask("thief", 0, 1), shared);
    }

    private static void thief() {
        says("THIEF: a row of up to 30 numbers is laid on what LINES of a SET VOLUME keep (without ERRATA; those that lean on no FACT are left out), as they were laid: CHANGES: the fewest numbers taken out, put in, or made others that make one the other.");
        Book b = laid(0, 1, 2, 3, 4);
        stolen(b, 4, 0);
        stolen(b, 0, 0, 1, 2, 3, 4);
        stolen(b, 1, 0, 1, 2, 4);
        stolen(b, 1, 0, 1, 2, 3, 9, 4);
        stolen(b, 1, 0, 1, 9, 3, 4);
        stolen(b, 4, 0, 4, 3, 2, 1);
        stolen(b, 2, 0, 2, 3, 4, 1);
        stolen(b, 4, 0, 9, 9, 9, 9);
        stolen(b, 5, 0, 9, 9, 9, 9, 9);
        b.ask("erratum", 0, 1, 7);
        stolen(b, 0, 0, 1, 2, 3, 4);
        for (int i = 0; i < 26; i++) {
            b.ask("steal", 4);
        }
        due("30 numbers", b.ask("thief", 0, 0), 26);
        due("a 31st", b.ask("steal", 4), NONE);
        Book o = new Book();
        o.writer(1);
        o.article("b", 2);
        o.article("a", 3);
        o.article("aa", 1);
        for (int i = 0; i < 3; i++) {
            o.ask("give", i, 0);
            o.ask("tell", i, i, 0);
        }
        o.ask("line", 0, 0, 0);
        o.ask("line", 1, 1, 0);
        o.ask("line", 1, NONE, 0);
        o.ask("line", 1, 100, 0);
        o.ask("line", 2, 0, 0);
        o.ask("line", 0, 2, 0);
        o.ask("strike", 2);
        o.ask("set", 0);
        // as they were laid: 1 of a; 0 and 2 of b
        stolen(o, 0, 0, 1, 0, 2);
        stolen(o, 2, 0, 0, 1, 2);
        o.ask("set", 1);
        due("a VOLUME without LINES", o.ask("thief", 1, 0), 3);

        says("SHARED: of all ways with the fewest CHANGES the most numbers that are laid on a like one of a LINE that is WRONG (its FACT is KNOWN otherwise NOW).");
        Book w = laid(1 + 4, 1, 2, 3, 4);
        stolen(w, 0, 2, 1, 2, 3, 4);
        stolen(w, 1, 1, 2, 3, 4);
        stolen(w, 1, 1, 9, 2, 3, 4);
        stolen(w, 2, 2, 1, 3);
        stolen(w, 2, 0, 2, 4);
        stolen(w, 4, 0);
        w.ask("tell", 0, 1, 0);
        stolen(w, 0, 1, 1, 2, 3, 4);
        Book two = laid(2, 5, 5);
        // 5 alone is laid on either; on the WRONG one it is SHARED
        stolen(two, 1, 1, 5);
        Book ways = laid(1, 1, 2, 3);
        // 1 on the WRONG one would cost 2 CHANGES more
        stolen(ways, 2, 0, 2, 3, 1);
        Book all = laid(-1, 1, 2, 3, 4, 5, 6, 7, 8, 9, 10, 11, 12, 13, 14, 15, 16, 17, 18, 19, 20, 21, 22, 23, 24, 25, 26, 27, 28, 29, 30);
        stolen(all, 0, 30, 1, 2, 3, 4, 5, 6, 7, 8, 9, 10, 11, 12, 13, 14, 15, 16, 17, 18, 19, 20, 21, 22, 23, 24, 25, 26, 27, 28, 29, 30);
        all.ask("erratum", 0, 1, 0);
        due("WRONG without ERRATA", all.ask("thief", 0, 1), 30);
    }
}
