/** The promises of the document, sentence by sentence, at the edges that each of them names. */
public final class FaceTest {
    private static final int NONE = Book.NONE;
    private static final int FAR = Integer.MAX_VALUE;
    private static final int LOW = Integer.MIN_VALUE;
    private static final Sentences DOC = new Sentences("What is refused changes nothing.", "## Not promised");

    public static void main(String[] args) {
        newObject();
        feedAndEnd();
        faultAndSheet();
        forceAndRule();
        goAndBound();
        articles();
        pointersAndPlates();
        points();
        strikeAndLater();
        volumeAndAt();
        why();
        handsAndEnemies();
        give();
        line();
        dieAndTakers();
        tellAndKnown();
        stale();
        mendAndErratum();
        told();
        setAndPage();
        promiseAndEnds();
        subscribers();
        lengths();
        giving();
        index();
        thief();
        is();
        count();
        DOC.close();
    }

    private static void says(String sentence) {
        DOC.says(sentence);
    }

    private static void due(String what, int got, int want) {
        DOC.due(what, got, want);
    }

    /** ENTRY 0 is an ARTICLE "a" with so many lines ASKED; HAND 0 may write it. */
    private static Book oneArticle(int asked) {
        Book b = new Book();
        b.article("a", asked);
        b.writer(1);
        return b;
    }

    /** As many LINES as told lean on FACTS 0 .. that are told to be 10, 11 ..; VOLUME 0 is SET. */
    private static Book setLines(int many) {
        Book b = oneArticle(many);
        b.ask("give", 0, 0);
        for (int i = 0; i < many; i++) {
            b.ask("tell", i, 10 + i, 0);
            b.ask("line", 0, i, 0);
        }
        b.ask("set", 0);
        return b;
    }

    private static void newObject() {
        says("The constants: `NONE = -1`: There is none.");
        due("NONE", BookOfAll.NONE, -1);

        says("No ENTRIES, no HANDS; NOW is 0.");
        Book b = new Book();
        for (int what = 0; what <= 8; what++) {
            due("count " + what, b.ask("count", what), 0);
        }
        due("no ENTRY", b.ask("volume", 0), NONE);
        due("no HAND", b.ask("count", 30), NONE);
        due("no LINE", b.ask("told", 0, 4), NONE);
        due("no SHEET", b.ask("force", 0, NONE), NONE);
        due("no ERRATUM", b.ask("misses", 0), NONE);
        due("no FACT is KNOWN", b.ask("known", 0, 0, 0), NONE);
        due("no SUBSCRIBER", b.ask("owed", 0, 0), NONE);
        due("no row", b.ask("forget"), 0);
        b.ask("go", 9);
        b.article("a", 1);
        b.writer(1);
        due("of another object", new Book().ask("count", 0), 0);
        due("of another object", new Book().ask("count", 1), 0);
        due("of another object", new Book().ask("count", 2), 0);
    }

    private static void feedAndEnd() {
        says("Bytes come behind those of the TEXT, of each number the highest first (20 of them): how many there are; NONE if there would be more than 600.");
        Book b = new Book();
        due("20", b.ask("feed", 0x6f776520, 0x31323334, 0x353b0000, 0, 0), 20);
        due("the highest first: owe 12345;", b.ask("fault"), 10);
        b.ask("end", 10);
        due("owe 12345;", b.ask("fault"), NONE);
        due("behind those", b.ask("feed", 0x6d757374, 0x20313d31, 0x3b202020, 0x20202020, 0x202020ff), 30);
        due("up to the last, which is 255", b.ask("fault"), 29);
        b.ask("end", 29);
        due("must 1=1;", b.ask("fault"), NONE);
        b.ask("end", 0);
        for (int i = 1; i <= 29; i++) {
            due("more", b.ask("feed", -1, LOW, FAR, 0, 0x80808080), 20 * i);
        }
        b.ask("end", 579);
        due("599", b.ask("feed", 0, 0, 0, 0, 0), 599);
        due("619", b.ask("feed", 0, 0, 0, 0, 0), NONE);
        b.ask("end", 581);
        due("601", b.ask("feed", 0, 0, 0, 0, 0), NONE);
        due("as it was", b.ask("count", 7), 581);
        b.ask("end", 580);
        due("600", b.ask("feed", 0, 0, 0, 0, 0), 600);
        due("620", b.ask("feed", 0, 0, 0, 0, 0), NONE);

        says("The TEXT has its first n bytes alone: true; false if it has not so many, or n is below 0.");
        due("not so many", b.ask("end", 601), 0);
        due("far above", b.ask("end", FAR), 0);
        due("below 0", b.ask("end", -1), 0);
        due("far below", b.ask("end", LOW), 0);
        due("as it was", b.ask("count", 7), 600);
        due("all", b.ask("end", 600), 1);
        due("one less", b.ask("end", 599), 1);
        due("not so many any more", b.ask("end", 600), 0);
        due("one", b.ask("end", 1), 1);
        due("none", b.ask("end", 0), 1);
        due("none of none", b.ask("end", 0), 1);
        due("one of none", b.ask("end", 1), 0);
        due("empty", b.ask("count", 7), 0);
    }

    private static void faultAndSheet() {
        says("The FAULT of the TEXT.");
        Book b = new Book();
        due("of none", b.ask("fault"), NONE);
        b.text("owe 5; numbers none;");
        due("a FAULT", b.ask("fault"), 15);
        due("it is as it was", b.ask("fault"), 15);
        b.ask("end", 15);
        due("cut", b.ask("fault"), 15);
        b.ask("end", 6);
        due("cut", b.ask("fault"), NONE);

        says("A SHEET comes of the TEXT, which is empty then: its number; NONE with a FAULT (it stays), or if 12 came.");
        b.text("owe 5");
        due("with a FAULT", b.ask("sheet"), NONE);
        due("it stays", b.ask("count", 7), 5);
        due("no SHEET came", b.ask("count", 4), 0);
        b.text("owe 5;");
        due("its number", b.ask("sheet"), 0);
        due("empty then", b.ask("count", 7), 0);
        due("of an empty one", b.ask("sheet"), 1);
        for (int i = 2; i < 12; i++) {
            due("more", b.ask("sheet"), i);
        }
        b.text("owe 6;");
        due("12 came", b.ask("sheet"), NONE);
        due("it stays", b.ask("count", 7), 6);
        due("12", b.ask("count", 4), 12);
    }

    private static void forceAndRule() {
        says("A SHEET is put in force from NOW on for a VOLUME (NONE: for all): how many were; NONE if there is none such, the VOLUME is SET, or 20 were.");
        Book b = new Book();
        due("no SHEET", b.ask("force", 0, 0), NONE);
        b.sheet("owe 1;");
        b.sheet("must 1=1;");
        due("no such SHEET", b.ask("force", 2, 0), NONE);
        due("no such SHEET", b.ask("force", -1, 0), NONE);
        due("no such SHEET", b.ask("force", FAR, 0), NONE);
        due("no such SHEET", b.ask("force", LOW, 0), NONE);
        due("no such VOLUME", b.ask("force", 0, 6), NONE);
        due("no such VOLUME", b.ask("force", 0, -2), NONE);
        due("no such VOLUME", b.ask("force", 0, LOW), NONE);
        due("no such VOLUME", b.ask("force", 0, 32), NONE);
        b.ask("go", 4);
        due("for VOLUME 0", b.ask("force", 0, 0), 1);
        due("for VOLUME 5", b.ask("force", 0, 5), 2);
        due("for all", b.ask("force", 1, NONE), 3);
        due("not ahead of NOW", b.ask("rule", 4, 0, 3), NONE);
        due("on NOW", b.ask("rule", 4, 0, 4), 0);
        b.ask("set", 0);
        due("SET", b.ask("force", 0, 0), NONE);
        due("for all, though one is SET", b.ask("force", 1, NONE), 4);
        for (int i = 5; i <= 20; i++) {
            due("more", b.ask("force", 1, 5), i);
        }
        due("20 were", b.ask("force", 1, 5), NONE);
        due("20 were", b.ask("force", 0, NONE), NONE);

        says("The SHEET by which a CLAUSE is in force for a VOLUME on a DAY (up to NOW): 0 numbers, 1 blanks, 2 write, 3 must, 4 owe; 10, 20, 30 and K: least, most, pay; NONE if there is none, or none such.");
        Book r = new Book();
        String[] all = {"numbers last", "blanks pass", "write 1=1", "must 1=1", "owe 1", "least short 1", "least plain 1", "least long 1",
            "most short 1", "most plain 1", "most long 1"};
        int[] clause = {0, 1, 2, 3, 4, 10, 11, 12, 20, 21, 22};
        due("none", r.ask("rule", 0, 0, 0), NONE);
        for (int i = 0; i < all.length; i++) {
            r.ask("force", r.sheet(all[i] + ";"), NONE);
        }
        r.forVolume("pay short 1;pay plain 1;pay long 1;", 2);
        for (int i = 0; i < all.length; i++) {
            due(all[i], r.ask("rule", clause[i], 5, 0), i);
        }
        for (int k = 0; k < 3; k++) {
            due("pay " + k, r.ask("rule", 30 + k, 2, 0), 11);
            due("pay of another VOLUME", r.ask("rule", 30 + k, 1, 0), NONE);
        }
        for (int none : new int[] {-1, 5, 6, 9, 13, 19, 23, 29, 33, 40, 42, 100, FAR, LOW}) {
            due("no CLAUSE " + none, r.ask("rule", none, 2, 0), NONE);
        }
        due("no VOLUME", r.ask("rule", 0, 6, 0), NONE);
        due("no VOLUME", r.ask("rule", 0, -1, 0), NONE);
        due("no VOLUME", r.ask("rule", 0, LOW, 0), NONE);
        due("behind NOW", r.ask("rule", 0, 0, 1), NONE);
        due("no DAY", r.ask("rule", 0, 0, -1), NONE);
        r.ask("go", 300);
        due("NOW", r.ask("rule", 0, 0, 300), 0);
        due("behind NOW", r.ask("rule", 0, 0, 301), NONE);
        r.ask("set", 0);
        due("of a SET VOLUME", r.ask("rule", 0, 0, 300), 0);
    }

    private static void goAndBound() {
        says("NOW is n DAYS later (0 .. 300; 2000 at most): NOW; NONE for another n.");
        Book b = new Book();
        due("0", b.ask("go", 0), 0);
        due("1", b.ask("go", 1), 1);
        due("300", b.ask("go", 300), 301);
        due("301", b.ask("go", 301), NONE);
        due("-1", b.ask("go", -1), NONE);
        due("far", b.ask("go", FAR), NONE);
        due("far below", b.ask("go", LOW), NONE);
        due("as it was", b.ask("count", 0), 301);
        for (int i = 0; i < 5; i++) {
            b.ask("go", 300);
        }
        due("1801 and 198", b.ask("go", 198), 1999);
        due("0", b.ask("go", 0), 1999);
        due("2000 at most", b.ask("go", 2), 2000);
        due("2000 at most", b.ask("go", 300), 2000);
        due("301, on the last DAY", b.ask("go", 301), NONE);

        says("The last letter of a VOLUME (0 .. 4): true; false if it is below that of the one ahead, above that of the next one, or some VOLUME is SET.");
        Book v = new Book();
        due("VOLUME 0 up to a", v.ask("bound", 0, 0), 1);
        due("below a", v.ask("bound", 0, -1), 0);
        due("above that of the next", v.ask("bound", 0, 10), 0);
        due("like that of the next", v.ask("bound", 0, 9), 1);
        due("below that of the one ahead", v.ask("bound", 1, 8), 0);
        due("like that of the one ahead", v.ask("bound", 1, 9), 1);
        due("above that of the next", v.ask("bound", 1, 15), 0);
        due("like that of the next", v.ask("bound", 1, 14), 1);
        due("VOLUME 4 up to z", v.ask("bound", 4, 25), 1);
        due("above z", v.ask("bound", 4, 26), 0);
        due("below that of the one ahead", v.ask("bound", 4, 18), 0);
        due("like that of the one ahead", v.ask("bound", 4, 19), 1);
        due("no bound of VOLUME 5", v.ask("bound", 5, 25), 0);
        due("no VOLUME", v.ask("bound", -1, 0), 0);
        due("no VOLUME", v.ask("bound", 6, 25), 0);
        due("no VOLUME", v.ask("bound", LOW, 0), 0);
        due("no letter", v.ask("bound", 4, FAR), 0);
        due("no letter", v.ask("bound", 0, LOW), 0);
        v.article("t", 1);
        v.article("u", 1);
        due("t", v.ask("volume", 0), 3);
        due("u is behind all", v.ask("volume", 1), 5);
        Book all = new Book();
        for (int i = 0; i < 5; i++) {
            due("VOLUME " + i + " up to a", all.ask("bound", i, 0), 1);
        }
        due("no bound of VOLUME 5, though it would fit", all.ask("bound", 5, 0), 0);
        due("b is behind all", all.ask("volume", all.article("b", 1)), 5);
        v.ask("set", 2);
        due("some VOLUME is SET", v.ask("bound", 4, 20), 0);
        due("as it was", v.ask("volume", 1), 5);
    }

    private static void articles() {
        says("An ARTICLE: its number.");
        Book b = new Book();
        due("first", b.article("b", 12003), 0);
        due("second", b.article("b", 12003), 1);
        due("an ARTICLE", b.ask("is", 1, 0), 0);

        says("The HEADING is 12 bytes of a, b and c, the highest first (0 behind its end).");
        due("a byte of a", b.ask("article", 'c' << 24, 0, 0, 1), 2);
        due("12 bytes", b.ask("article", 0x61626364, 0x65666768, 0x696a6b6c, 1), 3);
        due("11 bytes", b.ask("article", 0x61626364, 0x65666768, 0x696a6b00, 1), 4);
        due("0 at its begin", b.ask("article", 0x00616263, 0, 0, 1), NONE);
        due("0 within", b.ask("article", 0x61006263, 0, 0, 1), NONE);
        due("0 within, behind four", b.ask("article", 0x61626300, 'a' << 24, 0, 1), NONE);
        due("0 within, behind eight", b.ask("article", 0x61626364, 0x65666768, 'a', 1), NONE);
        due("0 alone", b.ask("article", 0, 0, 0, 1), NONE);
        due("a byte above 127", b.ask("article", 0xe1000000, 0, 0, 1), NONE);
        // abcdefghijk; abcdefghijkl; b; b; c
        int[] order = {4, 3, 0, 1, 2};
        for (int k = 0; k < order.length; k++) {
            due("place " + k, b.ask("at", 0, k), order[k]);
        }

        says("What is K * 10000 + FIELD * 1000 + ASKED.");
        due("K", b.ask("is", 0, 1), 1);
        due("FIELD", b.ask("is", 0, 2), 2);
        due("ASKED", b.ask("is", 0, 3), 3);
        due("the most", b.article("d", 27200), 5);
        due("K 2", b.ask("is", 5, 1), 2);
        due("FIELD 7", b.ask("is", 5, 2), 7);
        due("ASKED 200", b.ask("is", 5, 3), 200);
        due("the least", b.article("d", 1), 6);
        due("K 0", b.ask("is", 6, 1), 0);
        due("FIELD 0", b.ask("is", 6, 2), 0);
        due("ASKED 1", b.ask("is", 6, 3), 1);
        due("10000 and 1", b.ask("is", b.article("d", 10001), 1), 1);
        due("9999 is FIELD 9", b.article("d", 9999), NONE);
        due("20001", b.ask("is", b.article("d", 20001), 1), 2);

        says("NONE if it can't be, or 60 came.");
        for (int none : new int[] {0, 201, 1000, 8001, 9001, 10000, 18001, 27201, 28001, 30001, -1, -10001, 100001, FAR, LOW}) {
            due("what " + none, b.article("d", none), NONE);
        }
        due("as many as were", b.ask("count", 1), 9);
        for (int i = 9; i < 60; i++) {
            due("more", b.article("e", 1), i);
        }
        due("60 came", b.article("e", 1), NONE);
        due("60", b.ask("count", 1), 60);
    }

    private static void pointersAndPlates() {
        says("A POINTER: likewise; NONE also if there is no such ENTRY.");
        Book b = new Book();
        due("no ENTRY", b.pointer("a", 0), NONE);
        b.article("a", 1);
        due("to ENTRY 0", b.pointer("a", 0), 1);
        due("to a POINTER", b.pointer("a", 1), 2);
        due("to itself", b.pointer("a", 3), NONE);
        due("to none", b.pointer("a", NONE), NONE);
        due("far", b.pointer("a", FAR), NONE);
        due("far below", b.pointer("a", LOW), NONE);
        due("no HEADING", b.pointer("", 0), NONE);
        due("no HEADING", b.pointer("a ", 0), NONE);
        due("12 bytes", b.pointer("a b c d e f7", 0), 3);
        due("a POINTER", b.ask("is", 3, 0), 1);
        Book full = new Book();
        full.article("a", 1);
        for (int i = 1; i < 60; i++) {
            full.pointer("a", 0);
        }
        due("60 came", full.pointer("a", 0), NONE);

        says("A PLATE: likewise.");
        due("60 came", full.plate("a", 0, 1), NONE);
        due("of the last ENTRIES", full.plate("a", 59585756, 4), NONE);
        due("its number", b.plate("a", 0, 1), 4);
        due("a PLATE", b.ask("is", 4, 0), 2);
        due("no HEADING", b.plate(" a", 0, 1), NONE);
        due("no such ENTRY", b.plate("a", 5, 1), NONE);

        says("Of is up to 4 ENTRIES, by hundreds (the first the highest; each once); many of them (1 .. 4).");
        due("one", b.plate("b", 4, 1), 5);
        due("two", b.plate("b", 405, 2), 6);
        due("two with 0", b.plate("b", 6, 2), 7);
        due("three", b.plate("b", 70605, 3), 8);
        due("four", b.plate("b", 8070605, 4), 9);
        due("four with 0 first", b.plate("b", 10203, 4), 10);
        due("none", b.plate("b", 0, 0), NONE);
        due("five", b.plate("b", 1020304, 5), NONE);
        due("below", b.plate("b", 0, -1), NONE);
        due("far", b.plate("b", 0, FAR), NONE);
        due("far below", b.plate("b", 0, LOW), NONE);
        due("one twice", b.plate("b", 101, 2), NONE);
        due("0 twice", b.plate("b", 0, 2), NONE);
        due("0 thrice", b.plate("b", 1, 3), NONE);
        due("the first and the third alike", b.plate("b", 10201, 3), NONE);
        due("the first and the fourth alike", b.plate("b", 1020301, 4), NONE);
        due("the second and the fourth alike", b.plate("b", 1020302, 4), NONE);
        due("the first is none such", b.plate("b", 11000102, 4), NONE);
        due("the last is none such", b.plate("b", 11, 2), NONE);
        due("99", b.plate("b", 99, 1), NONE);
        due("more than many", b.plate("b", 102, 1), NONE);
        due("more than four", b.plate("b", 101020304, 4), NONE);
        due("below 0", b.plate("b", -1, 1), NONE);
        due("below 0", b.plate("b", LOW, 4), NONE);
        due("11 came", b.ask("count", 1), 11);
    }

    private static void points() {
        says("A POINTER leads elsewhere: true; false if there is none such that isn't SET, or no such ENTRY.");
        Book b = oneArticle(1);
        b.plate("b", 0, 1);
        b.pointer("f", 0);
        b.pointer("g", 0);
        b.pointer("h", 0);
        due("elsewhere", b.ask("points", 2, 1), 1);
        due("it leads", b.ask("ends", 2), 1);
        due("to itself", b.ask("points", 2, 2), 1);
        due("to the last", b.ask("points", 2, 4), 1);
        due("no such ENTRY", b.ask("points", 2, 5), 0);
        due("no such ENTRY", b.ask("points", 2, -1), 0);
        due("no such ENTRY", b.ask("points", 2, FAR), 0);
        due("as it was", b.ask("ends", 2), 0);
        due("an ARTICLE", b.ask("points", 0, 1), 0);
        due("a PLATE", b.ask("points", 1, 0), 0);
        due("none such", b.ask("points", 5, 0), 0);
        due("none such", b.ask("points", -1, 0), 0);
        due("none such", b.ask("points", LOW, 0), 0);
        b.ask("strike", 3);
        due("a STRUCK one", b.ask("points", 3, 1), 1);
        b.ask("later", 4);
        due("a LATER one", b.ask("points", 4, 1), 1);
        b.ask("set", 1);
        due("a SET one", b.ask("points", 2, 0), 0);
        due("as it was", b.ask("ends", 2), 1);
        due("a STRUCK one of a SET VOLUME", b.ask("points", 3, 0), 0);
        due("a LATER one of a SET VOLUME", b.ask("points", 4, 0), 1);
        b.pointer("i", 0);
        due("one that came too late", b.ask("points", 5, 1), 1);
    }

    private static void strikeAndLater() {
        says("STRUCK: true; false if there is no such ENTRY, it is so or LATER, or its VOLUME is SET.");
        Book b = new Book();
        due("no ENTRY", b.ask("strike", 0), 0);
        b.article("z", 1);
        b.pointer("a", 0);
        b.plate("b", 0, 1);
        b.pointer("c", 0);
        due("an ARTICLE", b.ask("strike", 0), 1);
        due("it is so", b.ask("strike", 0), 0);
        due("a POINTER", b.ask("strike", 1), 1);
        due("none such", b.ask("strike", 4), 0);
        due("none such", b.ask("strike", -1), 0);
        due("none such", b.ask("strike", FAR), 0);
        b.ask("later", 3);
        due("LATER", b.ask("strike", 3), 0);
        due("LATER still", b.ask("is", 3, 7), 2);
        b.ask("set", 0);
        due("SET", b.ask("strike", 2), 0);
        due("as it was", b.ask("is", 2, 7), 0);
        b.pointer("d", 0);
        due("its VOLUME was SET already", b.ask("strike", 4), 0);

        says("Sent LATER: likewise.");
        Book l = new Book();
        due("no ENTRY", l.ask("later", 0), 0);
        l.article("z", 1);
        l.pointer("a", 0);
        l.plate("b", 0, 1);
        l.pointer("c", 0);
        due("an ARTICLE", l.ask("later", 0), 1);
        due("it is so", l.ask("later", 0), 0);
        due("a PLATE", l.ask("later", 2), 1);
        due("none such", l.ask("later", 4), 0);
        due("none such", l.ask("later", -1), 0);
        due("none such", l.ask("later", LOW), 0);
        l.ask("strike", 3);
        due("STRUCK", l.ask("later", 3), 0);
        due("STRUCK still", l.ask("is", 3, 7), 1);
        l.ask("set", 0);
        due("SET", l.ask("later", 1), 0);
        due("as it was", l.ask("is", 1, 7), 0);
        l.pointer("d", 0);
        due("its VOLUME was SET already", l.ask("later", 4), 0);
    }

    private static void volumeAndAt() {
        says("The VOLUME of an ENTRY (6: LATER); NONE if there is none such.");
        Book b = new Book();
        due("none such", b.ask("volume", 0), NONE);
        b.article("z", 1);
        b.pointer("a", 0);
        b.pointer("ab", 0);
        b.pointer("b", 0);
        due("5", b.ask("volume", 0), 5);
        due("0", b.ask("volume", 1), 0);
        b.ask("later", 2);
        due("LATER", b.ask("volume", 2), 6);
        b.ask("strike", 3);
        due("STRUCK", b.ask("volume", 3), 0);
        due("none such", b.ask("volume", 4), NONE);
        due("none such", b.ask("volume", -1), NONE);
        due("none such", b.ask("volume", FAR), NONE);
        due("none such", b.ask("volume", LOW), NONE);

        says("The k-th ENTRY in ORDER of a VOLUME (from 0 on; STRUCK ones, too, not those LATER); NONE if there is none such.");
        for (int i = 0; i < 2; i++) {
            due("from 0 on", b.ask("at", 0, 0), 1);
            due("STRUCK, too", b.ask("at", 0, 1), 3);
            due("not LATER", b.ask("at", 0, 2), NONE);
            due("below", b.ask("at", 0, -1), NONE);
            due("far", b.ask("at", 0, FAR), NONE);
            due("far below", b.ask("at", 0, LOW), NONE);
            due("an empty VOLUME", b.ask("at", 1, 0), NONE);
            due("the supplement has no ORDER", b.ask("at", 6, 0), NONE);
            due("no VOLUME", b.ask("at", -1, 0), NONE);
            due("no VOLUME", b.ask("at", LOW, 0), NONE);
            b.ask("set", 0);
        }
        Book full = new Book();
        for (int i = 0; i < 60; i++) {
            full.article("a", 1);
        }
        due("the 60th", full.ask("at", 0, 59), 59);
        due("no 61st", full.ask("at", 0, 60), NONE);
    }

    private static void why() {
        says("WHY two ENTRIES are in that order (by the rules for all, NOW); NONE if there are none such, or both are one.");
        Book b = new Book();
        due("none such", b.ask("why", 0, 1), NONE);
        b.article("the b", 1);
        b.pointer("c", 0);
        due("both are one", b.ask("why", 0, 0), NONE);
        due("none such", b.ask("why", 0, 2), NONE);
        due("none such", b.ask("why", 2, 0), NONE);
        due("none such", b.ask("why", -1, 0), NONE);
        due("none such", b.ask("why", 0, -1), NONE);
        due("both none such", b.ask("why", FAR, LOW), NONE);
        due("no rule", b.ask("why", 0, 1), 0);
        b.forVolume("skip the;", 3);
        due("not for all", b.ask("why", 0, 1), 0);
        b.forAll("skip the;");
        due("NOW", b.ask("why", 0, 1), 1);
        b.ask("set", 0);
        due("of SET and LATER ones, too", b.ask("why", 1, 0), 1);
    }

    private static void handsAndEnemies() {
        says("A HAND: the number; NONE if FIELDS aren't 1 .. 255, SKILL or BORN can't be, or 12 came.");
        Book b = new Book();
        due("the least", b.ask("hand", 1, 1, -40000), 0);
        due("the most", b.ask("hand", 255, 20, 0), 1);
        int[][] none = {{0, 1, 0}, {256, 1, 0}, {-1, 1, 0}, {LOW, 1, 0}, {FAR, 1, 0}, {1, 0, 0}, {1, 21, 0}, {1, -1, 0}, {1, FAR, 0}, {1, LOW, 0},
            {1, 1, 1}, {1, 1, -40001}, {1, 1, FAR}, {1, 1, LOW}};
        for (int[] row : none) {
            due("can't be", b.ask("hand", row), NONE);
        }
        for (int i = 2; i < 12; i++) {
            due("more", b.ask("hand", 2, 2, -2), i);
        }
        due("12 came", b.ask("hand", 2, 2, -2), NONE);
        due("12", b.ask("count", 2), 12);

        says("Two HANDS are ENEMIES: true; false if there are none such, both are one, or they are so.");
        due("both are one", b.ask("enemies", 5, 5), 0);
        due("none such", b.ask("enemies", 0, 12), 0);
        due("none such", b.ask("enemies", 12, 0), 0);
        due("none such", b.ask("enemies", -1, 0), 0);
        due("none such", b.ask("enemies", 0, -1), 0);
        due("none such", b.ask("enemies", FAR, LOW), 0);
        for (int i = 0; i < 12; i++) {
            for (int j = i + 1; j < 12; j++) {
                due(i + " and " + j, b.ask("enemies", i, j), 1);
                due("they are so", b.ask("enemies", j, i), 0);
                due("they are so", b.ask("enemies", i, j), 0);
            }
        }
        Book d = new Book();
        d.writer(1);
        d.writer(1);
        d.ask("die", 0);
        due("a dead one", d.ask("enemies", 1, 0), 1);
    }

    private static void give() {
        says("GIVEN: true; false if there is no such ARTICLE that isn't DONE, no such HAND, or it may not be.");
        Book b = oneArticle(1);
        b.ask("hand", 2, 1, 0);
        b.pointer("b", 0);
        b.plate("c", 0, 1);
        due("a POINTER", b.ask("give", 1, 0), 0);
        due("a PLATE", b.ask("give", 2, 0), 0);
        due("none such", b.ask("give", 3, 0), 0);
        due("none such", b.ask("give", -1, 0), 0);
        due("none such", b.ask("give", FAR, 0), 0);
        due("no such HAND", b.ask("give", 0, 2), 0);
        due("no such HAND", b.ask("give", 0, -1), 0);
        due("no such HAND", b.ask("give", 0, LOW), 0);
        due("it may not be", b.ask("give", 0, 1), 0);
        due("to nobody yet", b.ask("is", 0, 5), NONE);
        due("GIVEN", b.ask("give", 0, 0), 1);
        due("again", b.ask("give", 0, 0), 1);
        due("its HAND", b.ask("is", 0, 5), 0);
        b.ask("line", 0, NONE, 0);
        due("DONE", b.ask("give", 0, 0), 0);
    }

    private static void line() {
        says("A LINE: its number.");
        Book b = oneArticle(9);
        b.ask("give", 0, 0);
        due("first", b.ask("line", 0, NONE, 0), 0);
        due("second", b.ask("line", 0, NONE, 30), 1);

        says("Leans: 0 .. 39 on a FACT (that is KNOWN), 100 and a LINE, or NONE.");
        due("not KNOWN", b.ask("line", 0, 0, 0), NONE);
        b.ask("tell", 0, 0, 0);
        b.ask("tell", 39, 999, 0);
        due("FACT 0, KNOWN to be 0", b.ask("line", 0, 0, 0), 2);
        due("FACT 39", b.ask("line", 0, 39, 0), 3);
        due("its FACT", b.ask("told", 3, 2), 39);
        due("LINE 0", b.ask("line", 0, 100, 0), 4);
        due("its LINE", b.ask("told", 4, 3), 0);
        due("LINE 4", b.ask("line", 0, 104, 0), 5);
        due("its LINE", b.ask("told", 5, 3), 4);
        due("nothing", b.ask("line", 0, NONE, 0), 6);
        for (int what = 2; what <= 3; what++) {
            due("nothing", b.ask("told", 6, what), NONE);
        }

        says("NONE if there is no such ARTICLE GIVEN (to a HAND that lives, not DONE, STRUCK, LATER), leans or TERM can't be, or 300 came.");
        for (int none : new int[] {1, 38, 40, 99, 107, 139, 140, -2, FAR, LOW, LOW + 99, LOW + 100}) {
            due("leans " + none, b.ask("line", 0, none, 0), NONE);
        }
        for (int none : new int[] {31, -1, FAR, LOW}) {
            due("TERM " + none, b.ask("line", 0, NONE, none), NONE);
        }
        due("as many as were", b.ask("count", 3), 7);
        b.pointer("b", 0);
        b.plate("c", 0, 1);
        b.article("d", 2);
        due("a POINTER", b.ask("line", 1, NONE, 0), NONE);
        due("a PLATE", b.ask("line", 2, NONE, 0), NONE);
        due("not GIVEN", b.ask("line", 3, NONE, 0), NONE);
        due("none such", b.ask("line", 4, NONE, 0), NONE);
        due("none such", b.ask("line", -1, NONE, 0), NONE);
        due("none such", b.ask("line", FAR, NONE, 0), NONE);
        b.ask("give", 3, 0);
        b.ask("later", 3);
        due("LATER", b.ask("line", 3, NONE, 0), NONE);
        b.article("e", 2);
        b.ask("give", 4, 0);
        b.ask("strike", 4);
        due("STRUCK", b.ask("line", 4, NONE, 0), NONE);
        b.ask("line", 0, NONE, 0);
        due("the last", b.ask("line", 0, NONE, 0), 8);
        due("DONE", b.ask("line", 0, NONE, 0), NONE);
        b.ask("set", 5);
        b.article("z", 1);
        b.ask("give", 5, 0);
        due("it counts as LATER", b.ask("line", 5, NONE, 0), NONE);
        b.article("f", 2);
        b.ask("give", 6, 0);
        b.ask("die", 0);
        due("of a dead HAND", b.ask("line", 6, NONE, 0), NONE);
        Book full = oneArticle(200);
        full.article("b", 200);
        full.ask("give", 0, 0);
        full.ask("give", 1, 0);
        for (int i = 0; i < 300; i++) {
            full.ask("line", i % 2, i == 0 ? NONE : 99 + i, 0);
        }
        due("300", full.ask("count", 3), 300);
        due("300 came", full.ask("line", 0, NONE, 0), NONE);
        due("the last leans on the one ahead", full.ask("told", 299, 3), 298);
    }

    private static void dieAndTakers() {
        says("A HAND DIES: how many ARTICLES of it HANG; NONE if there is none such that lives.");
        Book b = oneArticle(2);
        due("none such", b.ask("die", 1), NONE);
        due("none such", b.ask("die", -1), NONE);
        due("none such", b.ask("die", FAR), NONE);
        due("none such", b.ask("die", LOW), NONE);
        b.article("b", 1);
        b.ask("give", 0, 0);
        b.ask("give", 1, 0);
        due("two", b.ask("die", 0), 2);
        due("dead", b.ask("die", 0), NONE);
        b.writer(1);
        due("none", b.ask("die", 1), 0);
        due("dead", b.ask("die", 1), NONE);

        says("TAKERS of an ARTICLE that HANGS (bits); NONE if there is none such.");
        due("nobody", b.ask("takers", 0), 0);
        for (int i = 2; i < 12; i++) {
            b.writer(1);
        }
        due("2 to 11", b.ask("takers", 0), 4092);
        due("none such", b.ask("takers", 2), NONE);
        due("none such", b.ask("takers", -1), NONE);
        due("none such", b.ask("takers", FAR), NONE);
        b.article("c", 1);
        due("GIVEN to nobody", b.ask("takers", 2), NONE);
        b.ask("give", 0, 2);
        due("GIVEN on", b.ask("takers", 0), NONE);
        b.ask("strike", 1);
        due("STRUCK", b.ask("takers", 1), NONE);
        b.write(2, 3);
        b.ask("die", 3);
        due("DONE", b.ask("takers", 2), NONE);
        b.pointer("d", 0);
        due("a POINTER", b.ask("takers", 3), NONE);
        b.ask("later", 0);
        b.ask("die", 2);
        due("LATER", b.ask("takers", 0), 4080);
    }

    private static void tellAndKnown() {
        says("A FACT is told: true; false if there is none such, or it can't be.");
        Book b = new Book();
        due("FACT 0", b.ask("tell", 0, 0, 0), 1);
        due("FACT 39", b.ask("tell", 39, 999, 12), 1);
        for (int none : new int[] {40, -1, FAR, LOW}) {
            due("FACT " + none, b.ask("tell", none, 0, 0), 0);
        }
        for (int none : new int[] {1000, -1, FAR, LOW}) {
            due("value " + none, b.ask("tell", 0, none, 1), 0);
        }
        due("source", b.ask("tell", 0, 5, -1), 0);
        due("source", b.ask("tell", 0, 5, LOW), 0);

        says("What a FACT is KNOWN to be on a DAY (what 0), by whom (1); NONE likewise, or for others.");
        due("0", b.ask("known", 0, 0, 0), 0);
        due("by 0", b.ask("known", 0, 0, 1), 0);
        due("999", b.ask("known", 39, 2000, 0), 999);
        due("by 12", b.ask("known", 39, 2000, 1), 12);
        for (int none : new int[] {40, -1, FAR, LOW, 1}) {
            due("FACT " + none, b.ask("known", none, 0, 0), NONE);
            due("FACT " + none, b.ask("known", none, 0, 1), NONE);
        }
        for (int none : new int[] {2001, -1, FAR, LOW}) {
            due("DAY " + none, b.ask("known", 0, none, 0), NONE);
            due("DAY " + none, b.ask("known", 0, none, 1), NONE);
        }
        for (int none : new int[] {2, -1, FAR, LOW}) {
            due("what " + none, b.ask("known", 0, 0, none), NONE);
        }
        b.ask("go", 3);
        b.ask("tell", 1, 4, 5);
        due("told since", b.ask("known", 1, 3, 1), 5);
        due("not KNOWN yet", b.ask("known", 1, 2, 0), NONE);
        due("by nobody yet", b.ask("known", 1, 2, 1), NONE);
    }

    private static void stale() {
        says("Whether a LINE is STALE on a DAY; false if there is none such.");
        Book b = oneArticle(2);
        b.ask("give", 0, 0);
        b.ask("tell", 0, 1, 0);
        b.ask("line", 0, 0, 0);
        b.ask("line", 0, 100, 0);
        b.ask("go", 1);
        b.ask("tell", 0, 2, 0);
        due("NOW", b.ask("stale", 0, 1), 1);
        due("then", b.ask("stale", 0, 0), 0);
        due("the last DAY", b.ask("stale", 1, 2000), 1);
        for (int none : new int[] {2001, -1, FAR, LOW}) {
            due("DAY " + none, b.ask("stale", 0, none), 0);
        }
        for (int none : new int[] {2, -1, FAR, LOW}) {
            due("LINE " + none, b.ask("stale", none, 1), 0);
        }

        says("How many LINES of an ENTRY are STALE NOW; NONE if there is none such.");
        due("two", b.ask("stales", 0), 2);
        b.ask("tell", 0, 1, 0);
        due("none", b.ask("stales", 0), 0);
        b.pointer("b", 0);
        due("of a POINTER", b.ask("stales", 1), 0);
        for (int none : new int[] {2, -1, FAR, LOW}) {
            due("ENTRY " + none, b.ask("stales", none), NONE);
        }
    }

    private static void mendAndErratum() {
        says("MENDED: what it keeps; NONE if there is no such LINE that isn't SET, or it leans on no FACT.");
        Book b = oneArticle(3);
        b.ask("give", 0, 0);
        b.ask("tell", 0, 1, 0);
        b.ask("line", 0, 0, 0);
        b.ask("line", 0, 100, 0);
        b.ask("line", 0, NONE, 0);
        due("as it was", b.ask("mend", 0), 1);
        b.ask("tell", 0, 0, 0);
        due("what it keeps", b.ask("mend", 0), 0);
        due("on a LINE", b.ask("mend", 1), NONE);
        due("on nothing", b.ask("mend", 2), NONE);
        for (int none : new int[] {3, -1, FAR, LOW}) {
            due("LINE " + none, b.ask("mend", none), NONE);
        }
        b.ask("set", 0);
        b.ask("tell", 0, 5, 0);
        due("SET", b.ask("mend", 0), NONE);
        due("as it was", b.ask("told", 0, 0), 0);
        Book away = oneArticle(2);
        away.ask("give", 0, 0);
        away.ask("tell", 0, 1, 0);
        away.ask("line", 0, 0, 0);
        away.ask("tell", 0, 2, 0);
        away.ask("strike", 0);
        due("STRUCK, not SET", away.ask("mend", 0), 2);
        away.ask("set", 0);
        due("STRUCK, of a SET VOLUME", away.ask("mend", 0), NONE);

        says("An ERRATUM: its number; NONE if there is no such LINE that is SET and leans on a FACT, is or should aren't 0 .. 999, or 60 came.");
        Book e = setLines(2);
        due("first", e.ask("erratum", 0, 10, 0), 0);
        due("the ends", e.ask("erratum", 0, 0, 999), 1);
        due("the ends", e.ask("erratum", 0, 999, 10), 2);
        for (int none : new int[] {1000, -1, FAR, LOW}) {
            due("is " + none, e.ask("erratum", 0, none, 5), NONE);
            due("should " + none, e.ask("erratum", 0, 10, none), NONE);
        }
        for (int none : new int[] {2, -1, FAR, LOW}) {
            due("LINE " + none, e.ask("erratum", none, 10, 5), NONE);
        }
        due("on a LINE, SET", b.ask("erratum", 1, 1, 2), NONE);
        due("on nothing, SET", b.ask("erratum", 2, 1, 2), NONE);
        Book open = oneArticle(2);
        open.ask("give", 0, 0);
        open.ask("tell", 0, 1, 0);
        open.ask("line", 0, 0, 0);
        due("not SET", open.ask("erratum", 0, 1, 2), NONE);
        due("as it was", e.ask("count", 5), 3);
        for (int i = 3; i < 60; i++) {
            due("more", e.ask("erratum", 1, 11, 11), i);
        }
        due("60 came", e.ask("erratum", 1, 11, 12), NONE);
        due("60", e.ask("count", 5), 60);
        due("as it was", e.ask("told", 1, 1), 11);

        says("Whether an ERRATUM MISSES: 1 or 0; NONE if there is none such.");
        due("meets", e.ask("misses", 59), 0);
        for (int none : new int[] {60, -1, FAR, LOW}) {
            due("ERRATUM " + none, e.ask("misses", none), NONE);
        }
        Book m = setLines(1);
        due("none yet", m.ask("misses", 0), NONE);
        m.ask("erratum", 0, 11, 12);
        due("misses", m.ask("misses", 0), 1);
        m.ask("erratum", 0, 10, 11);
        due("still misses: it was ahead", m.ask("misses", 0), 1);
        due("meets", m.ask("misses", 1), 0);
    }

    private static void told() {
        says("What a LINE keeps (what 0), with ERRATA applied (1), its FACT (2; NONE), the LINE on which it leans (3; NONE), its ENTRY (4), PAGE (5; NONE), PAY (6), HAND (7).");
        Book b = new Book();
        b.article("z", 1);
        b.article("a", 43);
        b.ask("hand", 1, 1, 0);
        b.ask("hand", 1, 1, 0);
        b.forAll("pay short 9-lines;");
        b.ask("give", 1, 0);
        b.ask("tell", 39, 0, 0);
        b.ask("line", 1, 39, 0);
        b.ask("give", 1, 1);
        b.ask("line", 1, 100, 0);
        b.ask("line", 1, NONE, 0);
        for (int i = 3; i < 43; i++) {
            b.ask("line", 1, NONE, 0);
        }
        int[][] due = {{0, 0, 39, NONE, 1, NONE, 9, 0}, {NONE, NONE, NONE, 0, 1, NONE, 8, 1}, {NONE, NONE, NONE, NONE, 1, NONE, 7, 1}};
        for (int line = 0; line < 3; line++) {
            for (int what = 0; what < 8; what++) {
                due("LINE " + line + ", " + what, b.ask("told", line, what), due[line][what]);
            }
        }
        b.ask("set", 0);
        b.ask("erratum", 0, 0, 7);
        due("it keeps", b.ask("told", 0, 0), 0);
        due("with ERRATA", b.ask("told", 0, 1), 7);
        due("PAGE", b.ask("told", 0, 5), 1);
        due("the 40th", b.ask("told", 39, 5), 1);
        due("the 41st", b.ask("told", 40, 5), 2);
        due("PAY 0 at least", b.ask("told", 42, 6), 0);

        says("NONE for others, or if there is none such.");
        for (int none : new int[] {8, -1, FAR, LOW}) {
            due("what " + none, b.ask("told", 0, none), NONE);
        }
        for (int none : new int[] {43, -1, FAR, LOW}) {
            for (int what = 0; what < 8; what++) {
                due("LINE " + none + ", " + what, b.ask("told", none, what), NONE);
            }
        }
    }

    private static void setAndPage() {
        says("A VOLUME is SET: its PAGES; NONE if there is none such that is OPEN, or it can't be.");
        Book b = oneArticle(41);
        b.ask("give", 0, 0);
        due("it can't be", b.ask("set", 0), NONE);
        for (int i = 0; i < 40; i++) {
            b.ask("line", 0, NONE, 0);
        }
        due("it can't be: 40 of 41", b.ask("set", 0), NONE);
        b.ask("line", 0, NONE, 0);
        for (int none : new int[] {6, -1, FAR, LOW, 32}) {
            due("VOLUME " + none, b.ask("set", none), NONE);
        }
        b.pointer("f", 0);
        due("a POINTER alone", b.ask("set", 1), 1);
        b.forAll("must 1=2;");
        due("it can't be", b.ask("set", 0), NONE);
        due("not SET", b.ask("count", 6), 2);
        b.forAll("must 1=1;");
        due("2 PAGES", b.ask("set", 0), 2);
        due("not OPEN", b.ask("set", 0), NONE);
        due("an empty one", b.ask("set", 5), 0);
        due("not OPEN", b.ask("set", 5), NONE);

        says("The PAGE on which an ENTRY begins; NONE if it isn't laid, or there is none such.");
        Book p = new Book();
        p.article("z", 1);
        p.writer(1);
        p.article("a", 39);
        p.pointer("b", 0);
        p.pointer("c", 0);
        p.plate("d", 0, 1);
        p.pointer("e", 0);
        p.pointer("ea", 0);
        p.write(1, 0);
        p.ask("strike", 4);
        p.ask("later", 5);
        due("not laid", p.ask("page", 1), NONE);
        p.ask("set", 0);
        int[] pages = {NONE, 1, 1, 2, NONE, NONE, 2};
        for (int i = 0; i < pages.length; i++) {
            due("ENTRY " + i, p.ask("page", i), pages[i]);
        }
        for (int none : new int[] {7, -1, FAR, LOW}) {
            due("ENTRY " + none, p.ask("page", none), NONE);
        }
    }

    private static void promiseAndEnds() {
        says("PROMISE of a POINTER; NONE if there is none such, or it is STRUCK or LATER.");
        Book b = oneArticle(1);
        b.plate("p", 0, 1);
        for (int i = 0; i < 4; i++) {
            b.pointer("q", 0);
        }
        due("OPEN", b.ask("promise", 2), 1);
        due("an ARTICLE", b.ask("promise", 0), NONE);
        due("a PLATE", b.ask("promise", 1), NONE);
        for (int none : new int[] {6, -1, FAR, LOW}) {
            due("ENTRY " + none, b.ask("promise", none), NONE);
        }
        b.ask("strike", 3);
        b.ask("later", 4);
        due("STRUCK", b.ask("promise", 3), NONE);
        due("LATER", b.ask("promise", 4), NONE);
        b.ask("set", 3);
        due("SET itself", b.ask("promise", 2), 1);
        due("STRUCK, of a SET VOLUME", b.ask("promise", 3), NONE);
        b.pointer("r", 0);
        due("it counts as LATER", b.ask("promise", 6), NONE);

        says("The ENTRY at which a POINTER ENDS; NONE in a RING, or if there is none such.");
        due("ENTRY 0", b.ask("ends", 2), 0);
        due("of a STRUCK one", b.ask("ends", 3), 0);
        due("of a LATER one", b.ask("ends", 4), 0);
        b.ask("points", 6, 6);
        due("in a RING", b.ask("ends", 6), NONE);
        due("an ARTICLE", b.ask("ends", 0), NONE);
        due("a PLATE", b.ask("ends", 1), NONE);
        for (int none : new int[] {7, -1, FAR, LOW}) {
            due("ENTRY " + none, b.ask("ends", none), NONE);
        }

        says("PROMISED: POINTERS that END at ARTICLES that a HAND let HANG; NONE if there is none such.");
        b.ask("give", 0, 0);
        due("it lives", b.ask("promised", 0), 0);
        b.ask("die", 0);
        due("all but the STRUCK one and the RING", b.ask("promised", 0), 3);
        for (int none : new int[] {1, -1, FAR, LOW}) {
            due("HAND " + none, b.ask("promised", none), NONE);
        }
    }

    private static void subscribers() {
        says("A SUBSCRIBER from a VOLUME on, at a PRICE (1 .. 999) for each: true; false if it can't be, or that one is there.");
        Book b = new Book();
        for (int none : new int[] {10, -1, FAR, LOW}) {
            due("SUBSCRIBER " + none, b.ask("subscribe", none, 0, 1), 0);
        }
        for (int none : new int[] {6, -1, FAR, LOW}) {
            due("VOLUME " + none, b.ask("subscribe", 0, none, 1), 0);
        }
        for (int none : new int[] {0, 1000, -1, FAR, LOW}) {
            due("PRICE " + none, b.ask("subscribe", 0, 0, none), 0);
        }
        due("the least", b.ask("subscribe", 0, 0, 1), 1);
        due("the most", b.ask("subscribe", 9, 5, 999), 1);
        due("that one is there", b.ask("subscribe", 0, 0, 1), 0);
        due("that one is there", b.ask("subscribe", 9, 0, 5), 0);
        for (int i = 1; i < 9; i++) {
            due("more", b.ask("subscribe", i, 3, 50), 1);
        }

        says("What a SUBSCRIBER is OWED for a VOLUME that is SET; NONE if there is none such.");
        b.forAll("owe 60;");
        due("not SET", b.ask("owed", 0, 0), NONE);
        for (int v = 0; v < 6; v++) {
            b.ask("set", v);
        }
        due("PRICE 1", b.ask("owed", 0, 0), 1);
        due("PRICE 999", b.ask("owed", 9, 5), 60);
        due("as it was told first", b.ask("owed", 9, 4), NONE);
        due("from VOLUME 3 on", b.ask("owed", 4, 3), 50);
        due("from VOLUME 3 on", b.ask("owed", 4, 5), 50);
        due("ahead of VOLUME 3", b.ask("owed", 4, 2), NONE);
        for (int none : new int[] {10, -1, FAR, LOW}) {
            due("SUBSCRIBER " + none, b.ask("owed", none, 5), NONE);
        }
        for (int none : new int[] {6, -1, FAR, LOW, 32}) {
            due("VOLUME " + none, b.ask("owed", 0, none), NONE);
        }
        Book nobody = new Book();
        nobody.ask("set", 0);
        due("no SUBSCRIBER", nobody.ask("owed", 0, 0), NONE);
    }

    private static void lengths() {
        says("LENGTHS: the sum of differences for a VOLUME by sheets of s lines; NONE as told.");
        Book b = new Book();
        b.article("a", 5);
        b.pointer("b", 0);
        b.plate("c", 0, 1);
        b.article("f", 5);
        due("sheets of 1", b.ask("lengths", 0, 1), 0);
        due("sheets of 16", b.ask("lengths", 0, 16), 0);
        due("sheets of 15", b.ask("lengths", 0, 15), 1);
        due("sheets of 400", b.ask("lengths", 0, 400), 384);
        for (int none : new int[] {0, 401, -1, FAR, LOW}) {
            due("s " + none, b.ask("lengths", 0, none), NONE);
        }
        for (int none : new int[] {6, -1, FAR, LOW}) {
            due("VOLUME " + none, b.ask("lengths", none, 1), NONE);
        }
        b.forAll("most short 5;");
        due("it can't be", b.ask("lengths", 0, 17), NONE);

        says("The length of an ARTICLE by it (of its VOLUME); NONE likewise.");
        due("sheets of 15", b.ask("length", 0, 15), 4);
        due("of its own VOLUME", b.ask("length", 3, 5), 5);
        due("it can't be", b.ask("length", 0, 17), NONE);
        for (int none : new int[] {0, 401, -1, FAR, LOW}) {
            due("s " + none, b.ask("length", 0, none), NONE);
        }
        due("a POINTER", b.ask("length", 1, 1), NONE);
        due("a PLATE", b.ask("length", 2, 1), NONE);
        for (int none : new int[] {4, -1, FAR, LOW}) {
            due("ENTRY " + none, b.ask("length", none, 1), NONE);
        }
        b.writer(1);
        b.write(3, 0);
        b.ask("set", 1);
        due("SET", b.ask("length", 3, 1), NONE);
        due("SET", b.ask("lengths", 1, 1), NONE);
        b.article("g", 5);
        due("it counts as LATER", b.ask("length", 4, 1), NONE);
    }

    private static void giving() {
        says("GIVING: how many are done in time; NONE if it can't be.");
        Book b = oneArticle(2);
        b.article("b", 3);
        due("none in time", b.ask("giving", 3, 1, 1), 0);
        due("one", b.ask("giving", 3, 1, 2), 1);
        due("two", b.ask("giving", 3, 1, 5), 2);
        for (int none : new int[] {0, 4, 1 << 29, 1 << 30, LOW, FAR, -1}) {
            due("ARTICLES " + none, b.ask("giving", none, 1, 5), NONE);
        }
        for (int none : new int[] {0, 2, 1 << 11, 1 << 12, LOW, FAR, -1}) {
            due("HANDS " + none, b.ask("giving", 3, none, 5), NONE);
        }
        for (int none : new int[] {0, 401, -1, FAR, LOW}) {
            due("DAYS " + none, b.ask("giving", 3, 1, none), NONE);
        }

        says("The HAND of an ARTICLE by it; NONE if none, or likewise.");
        due("HAND 0", b.ask("given", 3, 1, 2, 0), 0);
        due("none", b.ask("given", 3, 1, 2, 1), NONE);
        due("not among these", b.ask("given", 1, 1, 5, 1), NONE);
        for (int none : new int[] {2, -1, FAR, LOW}) {
            due("ARTICLE " + none, b.ask("given", 3, 1, 5, none), NONE);
        }
        for (int none : new int[] {0, 5, LOW, -1}) {
            due("ARTICLES " + none, b.ask("given", none, 1, 5, 0), NONE);
        }
        for (int none : new int[] {0, 3, LOW, -1}) {
            due("HANDS " + none, b.ask("given", 3, none, 5, 0), NONE);
        }
        for (int none : new int[] {0, 401, -1}) {
            due("DAYS " + none, b.ask("given", 3, 1, none, 0), NONE);
        }
        due("nothing is GIVEN by asking", b.ask("is", 0, 5), NONE);
    }

    private static void index() {
        says("The k-th PAGE of a TERM in a VOLUME that is SET (from 0 on); NONE if there is none such.");
        Book b = oneArticle(41);
        b.ask("give", 0, 0);
        for (int i = 0; i < 41; i++) {
            b.ask("line", 0, NONE, i == 0 ? 0 : i == 40 ? 30 : 7);
        }
        due("not SET", b.ask("index", 0, 0, 0), NONE);
        b.ask("set", 0);
        due("TERM 0", b.ask("index", 0, 0, 0), 1);
        due("no more", b.ask("index", 0, 0, 1), NONE);
        due("TERM 30", b.ask("index", 30, 0, 0), 2);
        due("TERM 7", b.ask("index", 7, 0, 0), 1);
        due("no second, as its PAGE counts once", b.ask("index", 7, 0, 1), NONE);
        due("named by none", b.ask("index", 1, 0, 0), NONE);
        for (int none : new int[] {31, -1, FAR, LOW}) {
            due("TERM " + none, b.ask("index", none, 0, 0), NONE);
        }
        for (int none : new int[] {-1, FAR, LOW}) {
            due("k " + none, b.ask("index", 7, 0, none), NONE);
        }
        for (int none : new int[] {1, 6, -1, FAR, LOW, 32}) {
            due("VOLUME " + none, b.ask("index", 7, none, 0), NONE);
        }
    }

    private static void thief() {
        says("A number more of the THIEF's row (0 .. 999): how many there are; NONE if it can't be, or 30 are there.");
        Book b = new Book();
        for (int none : new int[] {1000, -1, FAR, LOW}) {
            due("number " + none, b.ask("steal", none), NONE);
        }
        due("0", b.ask("steal", 0), 1);
        due("999", b.ask("steal", 999), 2);
        for (int i = 3; i <= 30; i++) {
            due("more", b.ask("steal", 5), i);
        }
        due("30 are there", b.ask("steal", 5), NONE);

        says("The THIEF's row becomes empty: how many there were.");
        due("30", b.ask("forget"), 30);
        due("none", b.ask("forget"), 0);
        due("from 1 on again", b.ask("steal", 5), 1);
        due("1", b.ask("forget"), 1);

        says("Laid on a VOLUME that is SET: CHANGES (what 0), SHARED (1); NONE for others, or if there is none such.");
        Book t = setLines(3);
        t.ask("steal", 10);
        t.ask("steal", 12);
        t.ask("tell", 2, 0, 0);
        due("CHANGES", t.ask("thief", 0, 0), 1);
        due("SHARED", t.ask("thief", 0, 1), 1);
        for (int none : new int[] {2, -1, FAR, LOW}) {
            due("what " + none, t.ask("thief", 0, none), NONE);
        }
        for (int none : new int[] {1, 6, -1, FAR, LOW, 32}) {
            due("VOLUME " + none, t.ask("thief", none, 0), NONE);
            due("VOLUME " + none, t.ask("thief", none, 1), NONE);
        }
        t.ask("forget");
        due("an empty row", t.ask("thief", 0, 0), 3);
        due("an empty row", t.ask("thief", 0, 1), 0);
        for (int i = 0; i < 30; i++) {
            t.ask("steal", 12);
        }
        due("a full row", t.ask("thief", 0, 0), 29);
        due("a full row", t.ask("thief", 0, 1), 1);
    }

    private static void is() {
        says("Of an ENTRY: 0 its kind (0 ARTICLE, 1 POINTER, 2 PLATE), 1 K, 2 FIELD, 3 ASKED, 4 lines that it has, 5 its HAND (NONE), 6 whether DONE, 7 how it is (0, 1 STRUCK, 2 LATER), 8 whether it HANGS, 9 whether its VOLUME is SET.");
        Book b = new Book();
        b.article("a", 27002);
        b.pointer("b", 0);
        b.plate("c", 0, 1);
        b.article("f", 1);
        b.writer(1);
        int[][] all = {{0, 2, 7, 2, 0, NONE, 0, 0, 0, 0}, {1, NONE, NONE, NONE, 0, NONE, NONE, 0, NONE, 0}, {2, NONE, NONE, NONE, 0, NONE, NONE, 0, NONE, 0}};
        isAll(b, all);
        b.write(0, 0);
        b.ask("strike", 1);
        b.ask("later", 2);
        b.ask("give", 3, 0);
        b.ask("die", 0);
        b.ask("set", 0);
        due("an ARTICLE that HANGS", b.ask("is", 3, 8), 1);
        due("its VOLUME isn't SET", b.ask("is", 3, 9), 0);
        due("its HAND, though dead", b.ask("is", 3, 5), 0);
        int[][] then = {{0, 2, 7, 2, 2, 0, 1, 0, 0, 1}, {1, NONE, NONE, NONE, 0, NONE, NONE, 1, NONE, 1}, {2, NONE, NONE, NONE, 0, NONE, NONE, 2, NONE, 1}};
        isAll(b, then);
        b.pointer("d", 0);
        due("it counts as LATER", b.ask("is", 4, 7), 2);
        due("its VOLUME is SET", b.ask("is", 4, 9), 1);
        Book moved = new Book();
        moved.article("z", 1);
        moved.pointer("7", 0);
        moved.ask("set", 0);
        moved.forAll("numbers last;");
        due("of the VOLUME with which it was SET", moved.ask("is", 1, 9), 1);
        due("though a new one would not be", moved.ask("is", moved.pointer("8", 0), 9), 0);

        says("NONE for others, if there is none such (1 to 3, 5, 6, 8: of an ARTICLE).");
        for (int none : new int[] {10, -1, FAR, LOW}) {
            for (int entry = 0; entry < 3; entry++) {
                due("what " + none, b.ask("is", entry, none), NONE);
            }
        }
        for (int none : new int[] {5, -1, FAR, LOW}) {
            for (int what = 0; what < 10; what++) {
                due("ENTRY " + none, b.ask("is", none, what), NONE);
            }
        }
        for (int what : new int[] {1, 2, 3, 5, 6, 8}) {
            due("of a POINTER", b.ask("is", 1, what), NONE);
            due("of a PLATE", b.ask("is", 2, what), NONE);
        }
    }

    private static void isAll(Book b, int[][] want) {
        for (int entry = 0; entry < want.length; entry++) {
            for (int what = 0; what < 10; what++) {
                due("ENTRY " + entry + ", " + what, b.ask("is", entry, what), want[entry][what]);
            }
        }
    }

    private static void count() {
        says("0 NOW, 1 ENTRIES, 2 HANDS, 3 LINES, 4 SHEETS, 5 ERRATA, 6 VOLUMES that are SET (bits), 7 bytes of the TEXT, 8 PAY of all; 10 and a HAND: PAY of its LINES; 30 and a HAND: whether it lives.");
        Book b = new Book();
        b.ask("go", 1);
        b.article("a", 4);
        b.pointer("z", 0);
        b.writer(7);
        b.writer(9);
        b.writer(9);
        b.forAll("pay short skill;");
        b.ask("sheet");
        b.ask("tell", 0, 1, 0);
        b.ask("give", 0, 0);
        b.ask("line", 0, 0, 0);
        b.ask("line", 0, 0, 0);
        b.ask("give", 0, 1);
        b.ask("line", 0, 0, 0);
        b.ask("line", 0, 0, 0);
        b.ask("set", 0);
        b.ask("set", 5);
        b.ask("erratum", 0, 1, 2);
        b.ask("feed", 0, 0, 0, 0, 0);
        b.ask("die", 1);
        int[] all = {1, 2, 3, 4, 2, 1, 33, 20, 32};
        for (int what = 0; what < all.length; what++) {
            due("count " + what, b.ask("count", what), all[what]);
        }
        int[] pay = {14, 18, 0, NONE};
        int[] lives = {1, 0, 1, NONE};
        for (int hand = 0; hand < 4; hand++) {
            due("PAY of " + hand, b.ask("count", 10 + hand), pay[hand]);
            due("whether " + hand + " lives", b.ask("count", 30 + hand), lives[hand]);
        }
        for (int i = 3; i < 12; i++) {
            b.writer(1);
        }
        due("PAY of the twelfth", b.ask("count", 21), 0);
        due("whether the twelfth lives", b.ask("count", 41), 1);

        says("NONE for others.");
        for (int none : new int[] {9, 22, 23, 29, 42, 43, 100, -1, FAR, LOW}) {
            due("count " + none, b.ask("count", none), NONE);
        }
    }
}
