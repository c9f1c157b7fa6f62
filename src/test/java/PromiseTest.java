/** For each promise of the document what it asks: ordinary inputs, the edges, and wrong inputs. */
public final class PromiseTest {
    private static final int NONE = BookOfAll.NONE;
    private static int wrong = 0;

    private static void due(int promise, String what, int got, int want) {
        if (got != want) {
            wrong++;
            System.out.println("promise " + promise + ", " + what + ": answered " + got + ", due is " + want);
        }
    }

    private static void due(int promise, String what, boolean got, boolean want) {
        due(promise, what, got ? 1 : 0, want ? 1 : 0);
    }

    public static void main(String[] args) {
        newObject();
        feedAndEnd();
        faultsOfClauses();
        faultsOfSums();
        faultsOfConditions();
        sheets();
        forceAndRule();
        days();
        bounds();
        articles();
        pointersAndPlates();
        pointElsewhere();
        strikeAndLater();
        keysAndOrder();
        longWords();
        orderOfOneVolume();
        reasons();
        handsAndEnemies();
        giveByTheDocument();
        giveByRules();
        values();
        linesWritten();
        deaths();
        facts();
        staleLines();
        mendedLines();
        errataOfLines();
        toldOfLines();
        settingVolumes();
        mustHold();
        laterArticles();
        promisesOfPointers();
        promisedByHands();
        subscribers();
        lengthsOfVolumes();
        lengthsWithinEnds();
        givingArticles();
        givingByMay();
        indexOfTerms();
        thieves();
        howEntriesAre();
        counts();
        limits();
        System.out.println(wrong == 0 ? "all promises are kept" : wrong + " answers are not as promised");
        if (wrong != 0) {
            System.exit(1);
        }
    }

    // ---- helpers

    private static int four(String s, int from) {
        int value = 0;
        for (int i = from; i < from + 4; i++) {
            value = value << 8 | (i < s.length() ? s.charAt(i) & 255 : 0);
        }
        return value;
    }

    private static int article(BookOfAll x, String heading, int what) {
        return x.article(four(heading, 0), four(heading, 4), four(heading, 8), what);
    }

    private static int pointer(BookOfAll x, String heading, int to) {
        return x.pointer(four(heading, 0), four(heading, 4), four(heading, 8), to);
    }

    private static int plate(BookOfAll x, String heading, int of, int many) {
        return x.plate(four(heading, 0), four(heading, 4), four(heading, 8), of, many);
    }

    private static void text(BookOfAll x, String s) {
        x.end(0);
        for (int i = 0; i < s.length(); i += 20) {
            x.feed(four(s, i), four(s, i + 4), four(s, i + 8), four(s, i + 12), four(s, i + 16));
        }
        x.end(s.length());
    }

    private static int faultOf(String s) {
        BookOfAll x = new BookOfAll();
        text(x, s);
        return x.fault();
    }

    private static void fault(String s, int want) {
        due(4, "\"" + s + "\"", faultOf(s), want);
    }

    private static int sheet(BookOfAll x, String s) {
        text(x, s);
        return x.sheet();
    }

    /** A SHEET is made of the text and put in force for all. */
    private static void forAll(BookOfAll x, String s) {
        forVolume(x, s, NONE);
    }

    private static void forVolume(BookOfAll x, String s, int volume) {
        due(6, "\"" + s + "\" is put in force", x.force(sheet(x, s), volume) != NONE, true);
    }

    /** A HAND for all FIELDS. */
    private static int writer(BookOfAll x, int skill) {
        return x.hand(255, skill, -365 * 30);
    }

    /** The ARTICLE is GIVEN and written out with LINES that lean on nothing. */
    private static void write(BookOfAll x, int article, int hand) {
        x.give(article, hand);
        for (int i = x.is(article, 4); i < x.is(article, 3); i++) {
            x.line(article, NONE, 0);
        }
    }

    private static void order(int promise, BookOfAll x, int volume, int... want) {
        for (int k = 0; k <= want.length; k++) {
            due(promise, "place " + k + " of VOLUME " + volume, x.at(volume, k), k < want.length ? want[k] : NONE);
        }
    }

    // ---- 1 to 9: texts, rules, days, bounds

    private static void newObject() {
        BookOfAll x = new BookOfAll();
        for (int what = 0; what <= 8; what++) {
            due(1, "count " + what, x.count(what), 0);
        }
        due(1, "entry", x.volume(0), NONE);
        due(1, "hand", x.count(30), NONE);
        due(1, "fault of an empty text", x.fault(), NONE);
        due(1, "NONE", BookOfAll.NONE, -1);
        x.go(3);
        due(1, "another object", new BookOfAll().count(0), 0);
    }

    private static void feedAndEnd() {
        BookOfAll x = new BookOfAll();
        due(2, "first", x.feed(0x6f776520, 0x31323334, 0x353b2020, 0x20202020, 0x20202020), 20);
        due(2, "highest byte first", x.fault(), NONE);
        x.end(8);
        due(2, "behind the bytes", x.feed(0x353b2020, 0, 0, 0, 0), 28);
        due(2, "zero begins no token", x.fault(), 12);
        x.end(0);
        for (int i = 1; i <= 30; i++) {
            due(2, "bytes", x.feed(-1, -1, -1, -1, -1), 20 * i);
        }
        due(2, "too many", x.feed(0, 0, 0, 0, 0), NONE);
        due(2, "as it was", x.count(7), 600);
        due(3, "cut", x.end(581), true);
        due(2, "one too many", x.feed(0, 0, 0, 0, 0), NONE);
        due(3, "cut again", x.end(580), true);
        due(2, "just enough", x.feed(0, 0, 0, 0, 0), 600);
        due(3, "not so many", x.end(601), false);
        due(3, "below 0", x.end(-1), false);
        due(3, "refused", x.count(7), 600);
        due(3, "all", x.end(600), true);
        due(3, "none", x.end(0), true);
        due(3, "one of none", x.end(1), false);
        due(3, "left", x.count(7), 0);
    }

    private static void faultsOfClauses() {
        fault("", NONE);
        fault(" \n ", NONE);
        fault(";", 0);
        fault(" ;", 1);
        fault("skip a;skip skip;skip the;skip a;", NONE);
        fault("skip a;skip b;skip c;skip d;skip e;", 33);
        fault("skip a;skip b;skip c;skip d;skip", 32);
        fault("skip ;", 5);
        fault("skip 7;", 5);
        fault("skip abcdefgh;", NONE);
        fault("skip abcdefghi;", 5);
        fault("skip zoo;skip azaz;", NONE);
        fault("skip a b;", 7);
        fault("skip a1;", 6);
        fault("skip", 4);
        fault("skip  ", 6);
        fault("skip the", 8);
        fault("skip the ", 9);
        fault("numbers first;numbers last;", 14);
        fault("numbers last;blanks pass;", NONE);
        fault("numbers count;", 8);
        fault("blanks first;", 7);
        fault("blanks count;blanks count;", 13);
        fault("numbersfirst;", 0);
        fault("numbers\nfirst\n;\n", NONE);
        fault("numbers\tfirst;", 7);
        fault("number first;", 0);
        fault("least short 1;least plain 1;least long 1;most short 1;most plain 1;most long 1;", NONE);
        fault("pay short 1;pay plain 1;pay long 1;owe 1;", NONE);
        fault("pay short 1;pay short 2;", 16);
        fault("most long 1;least long 1;most long 2;", 30);
        fault("least owe 1;", 6);
        fault("least ;", 6);
        fault("owe 1;owe 1;", 6);
        fault("write 1=1;must 1=1;write 1=1;", 19);
        fault("must 1=1;must 1=1;", 9);
        fault("Skip a;", 0);
        fault("skip a; .", 8);
        fault("skip a, skip b;", 6);
        fault("numbers first; ; .", 15);
        fault("\u00e9", 0);
    }

    private static void faultsOfSums() {
        fault("owe 0;", NONE);
        fault("owe 99999;", NONE);
        fault("owe 100000;", 4);
        fault("owe 0000099999;", NONE);
        fault("owe 99999999999999999999999999;", 4);
        fault("owe 1+100000.", 6);
        fault("owe ;", 4);
        fault("owe", 3);
        fault("owe 1", 5);
        fault("owe 1+", 6);
        fault("owe -1;", 4);
        fault("owe 1 2;", 6);
        fault("owe 1asked;", 5);
        fault("owe asked1;", 9);
        fault("owe asked+lines-facts*points/field;", NONE);
        fault("owe skill*age+volume*late;", NONE);
        fault("owe lined;", 4);
        fault("owe short;", 4);
        fault("owe (1;", 6);
        fault("owe 1);", 5);
        fault("owe ();", 5);
        fault("owe (1)(2);", 7);
        fault("owe [1];", 4);
        fault("owe 1<2;", 5);
        fault("owe 1=2;", 5);
        fault("owe not 1;", 4);
        fault("owe ((((((((7))))))));", NONE);
        fault("owe (((((((((7)))))))));", 12);
        fault("owe (1)+((((((((7))))))));", NONE);
        fault("least short ((((((((7))))))));", NONE);
        fault("most long (((((((((7)))))))));", 18);
        fault("owe 1**2;", 6);
    }

    private static void faultsOfConditions() {
        fault("write 1=1;", NONE);
        fault("write 1;", 7);
        fault("write ;", 6);
        fault("write 1=1=1;", 9);
        fault("write 1=1 and 2>1 or 3<2;", NONE);
        fault("write 1=1 and;", 13);
        fault("write or 1=1;", 6);
        fault("write not 1=1;", NONE);
        fault("write not;", 9);
        fault("write not [1=1 or [2=2]];", NONE);
        fault("write [1=1;", 10);
        fault("write [1];", 8);
        fault("write (1=1);", 8);
        fault("write [1=1)];", 10);
        fault("write ([1=1]);", 7);
        fault("write 1=not 1=1;", 8);
        fault("write not not not not not not not not 1=1;", NONE);
        fault("write not not not not not not not not not 1=1;", 38);
        fault("write not not not not not not not not (1)=1;", 38);
        fault("write not not not not not not not (1)=1;", NONE);
        fault("write [[[[[[[[1=1]]]]]]]];", NONE);
        fault("write [[[[[[[[[1=1]]]]]]]]];", 14);
        fault("write not 1=1 and not not not not not not not not 1=1;", NONE);
        fault("write [not [not ((((1))))=1]];", NONE);
        fault("write [not [not (((((1)))))=1]];", 20);
        fault("must 1=1 and or 1=1;", 13);
        fault("must 1=1", 8);
    }

    private static void sheets() {
        BookOfAll x = new BookOfAll();
        due(5, "of an empty text", x.sheet(), 0);
        due(5, "of a text", sheet(x, "owe 1;"), 1);
        due(5, "empty then", x.count(7), 0);
        due(5, "with a fault", sheet(x, "owe 1"), NONE);
        due(5, "it stays", x.count(7), 5);
        due(5, "count", x.count(4), 2);
        for (int i = 2; i < 12; i++) {
            due(5, "more", sheet(x, "skip a;"), i);
        }
        due(5, "a thirteenth", sheet(x, "skip a;"), NONE);
        due(5, "its text stays", x.count(7), 7);
        due(5, "count of all", x.count(4), 12);
    }

    private static void forceAndRule() {
        BookOfAll x = new BookOfAll();
        due(6, "no such sheet", x.force(0, NONE), NONE);
        sheet(x, "numbers last;write 1=1;least plain 3;");
        sheet(x, "blanks pass;must 1=1;owe 4;most long 5;pay short 6;");
        sheet(x, "numbers first;");
        due(7, "none in force", x.rule(0, 0, 0), NONE);
        due(6, "for all", x.force(0, NONE), 1);
        x.go(5);
        due(6, "for a volume", x.force(2, 3), 2);
        due(6, "a sheet twice", x.force(1, NONE), 3);
        due(6, "no such", x.force(3, 0), NONE);
        due(6, "below", x.force(-1, 0), NONE);
        due(6, "no such volume", x.force(0, 6), NONE);
        due(6, "no such volume", x.force(0, -2), NONE);
        due(7, "numbers of 0", x.rule(0, 0, 5), 0);
        due(7, "numbers of 3 on day 5", x.rule(0, 3, 5), 2);
        due(7, "numbers of 3 on day 4", x.rule(0, 3, 4), 0);
        due(7, "blanks", x.rule(1, 0, 5), 1);
        due(7, "blanks ahead", x.rule(1, 0, 4), NONE);
        due(7, "write", x.rule(2, 5, 0), 0);
        due(7, "must", x.rule(3, 5, 5), 1);
        due(7, "owe", x.rule(4, 5, 5), 1);
        due(7, "no clause 5", x.rule(5, 5, 5), NONE);
        due(7, "least short", x.rule(10, 0, 5), NONE);
        due(7, "least plain", x.rule(11, 0, 5), 0);
        due(7, "most long", x.rule(22, 0, 5), 1);
        due(7, "most plain", x.rule(21, 0, 5), NONE);
        due(7, "pay short", x.rule(30, 0, 5), 1);
        due(7, "no clause", x.rule(33, 0, 5), NONE);
        due(7, "no clause", x.rule(13, 0, 5), NONE);
        due(7, "no clause", x.rule(40, 0, 5), NONE);
        due(7, "no clause", x.rule(-1, 0, 5), NONE);
        due(7, "no volume", x.rule(0, 6, 5), NONE);
        due(7, "behind NOW", x.rule(0, 0, 6), NONE);
        due(7, "no day", x.rule(0, 0, -1), NONE);
        due(6, "the later put on one day", x.force(0, 3), 4);
        due(7, "numbers of 3 now", x.rule(0, 3, 5), 0);
        x.set(4);
        due(6, "a SET volume", x.force(0, 4), NONE);
        for (int i = 5; i <= 20; i++) {
            due(6, "puts", x.force(0, NONE), i);
        }
        due(6, "too many", x.force(0, NONE), NONE);
    }

    private static void days() {
        BookOfAll x = new BookOfAll();
        due(8, "none", x.go(0), 0);
        due(8, "most", x.go(300), 300);
        due(8, "above", x.go(301), NONE);
        due(8, "below", x.go(-1), NONE);
        due(8, "refused", x.count(0), 300);
        for (int i = 2; i <= 6; i++) {
            due(8, "on", x.go(300), 300 * i);
        }
        due(8, "to the last", x.go(200), 2000);
        due(8, "2000 at most", x.go(1), 2000);
        due(8, "now", x.count(0), 2000);
    }

    private static void bounds() {
        BookOfAll x = new BookOfAll();
        String first = "aefjkotuyz09";
        int[] volumes = {0, 0, 1, 1, 2, 2, 3, 4, 4, 5, 0, 0};
        for (int i = 0; i < volumes.length; i++) {
            article(x, first.substring(i, i + 1), 1);
            due(9, "volume of " + first.charAt(i), x.volume(i), volumes[i]);
        }
        due(9, "down", x.bound(0, 0), true);
        due(9, "e", x.volume(1), 1);
        due(9, "below the one ahead", x.bound(2, 8), false);
        due(9, "like the one ahead", x.bound(2, 9), true);
        due(9, "o", x.volume(5), 3);
        due(9, "above the next one", x.bound(2, 20), false);
        due(9, "like the next one", x.bound(2, 19), true);
        due(9, "t", x.volume(6), 2);
        due(9, "the last", x.bound(4, 25), true);
        due(9, "z", x.volume(9), 4);
        due(9, "no letter", x.bound(4, 26), false);
        due(9, "no letter", x.bound(0, -1), false);
        due(9, "no bound of 5", x.bound(5, 25), false);
        due(9, "no volume", x.bound(-1, 0), false);
        x.set(5);
        due(9, "some volume is SET", x.bound(0, 0), false);
    }

    // ---- 10 to 18: entries and their order

    private static void articles() {
        BookOfAll x = new BookOfAll();
        due(10, "first", article(x, "a", 1), 0);
        due(10, "twelve bytes", article(x, "ab cd ef 012", 27200), 1);
        due(10, "K", x.is(1, 1), 2);
        due(10, "FIELD", x.is(1, 2), 7);
        due(10, "ASKED", x.is(1, 3), 200);
        due(10, "empty", article(x, "", 1), NONE);
        due(10, "blank first", article(x, " a", 1), NONE);
        due(10, "blank last", article(x, "a ", 1), NONE);
        due(10, "blank as the twelfth", article(x, "abcdefghijk ", 1), NONE);
        due(10, "two blanks", article(x, "a  b", 1), NONE);
        due(10, "a great letter", article(x, "A", 1), NONE);
        due(10, "a sign", article(x, "a-b", 1), NONE);
        due(10, "behind its end", article(x, "a\0b", 1), NONE);
        due(10, "ahead of it", article(x, "\0a", 1), NONE);
        due(10, "great bytes", article(x, "a\u00e9", 1), NONE);
        due(10, "beside a", article(x, "`", 1), NONE);
        due(10, "beside z", article(x, "{", 1), NONE);
        due(10, "beside 0", article(x, "/", 1), NONE);
        due(10, "beside 9", article(x, ":", 1), NONE);
        due(10, "asks 0", article(x, "a", 0), NONE);
        due(10, "asks 201", article(x, "a", 201), NONE);
        due(10, "field 8", article(x, "a", 8001), NONE);
        due(10, "K 3", article(x, "a", 30001), NONE);
        due(10, "below", article(x, "a", -1), NONE);
        due(10, "below", article(x, "a", -9999), NONE);
        due(10, "refused", x.count(1), 2);
        for (int i = 2; i < 60; i++) {
            due(10, "more", article(x, "b", 1), i);
        }
        due(10, "too many", article(x, "b", 1), NONE);
        due(11, "too many", pointer(x, "b", 0), NONE);
        due(12, "too many", plate(x, "b", 0, 1), NONE);
    }

    private static void pointersAndPlates() {
        BookOfAll x = new BookOfAll();
        due(11, "to none", pointer(x, "a", 0), NONE);
        due(12, "of none", plate(x, "a", 0, 1), NONE);
        article(x, "a", 1);
        due(11, "to itself", pointer(x, "b", 1), NONE);
        due(11, "to one", pointer(x, "b", 0), 1);
        due(11, "below", pointer(x, "b", -1), NONE);
        due(11, "no heading", pointer(x, "B", 0), NONE);
        due(11, "kind", x.is(1, 0), 1);
        due(12, "of one", plate(x, "c", 1, 1), 2);
        due(12, "of two", plate(x, "c", 201, 2), 3);
        due(12, "first of all ahead", plate(x, "c", 1, 2), 4);
        due(12, "of four", plate(x, "c", 3020100, 4), 5);
        due(12, "of four", plate(x, "c", 10203, 4), 6);
        due(12, "kind", x.is(6, 0), 2);
        due(12, "of itself", plate(x, "c", 7, 1), NONE);
        due(12, "one twice", plate(x, "c", 101, 2), NONE);
        due(12, "two of three", plate(x, "c", 10203, 2), NONE);
        due(12, "none of them", plate(x, "c", 0, 0), NONE);
        due(12, "five of them", plate(x, "c", 10203, 5), NONE);
        due(12, "below", plate(x, "c", -1, 1), NONE);
        due(12, "no heading", plate(x, " c", 0, 1), NONE);
        due(12, "too great", plate(x, "c", 2103020100, 4), NONE);
        due(12, "refused", x.count(1), 7);
    }

    private static void pointElsewhere() {
        BookOfAll x = new BookOfAll();
        article(x, "a", 1);
        article(x, "b", 1);
        pointer(x, "z", 0);
        pointer(x, "f", 0);
        due(13, "elsewhere", x.points(2, 1), true);
        due(13, "leads there", x.ends(2), 1);
        due(13, "an article", x.points(0, 1), false);
        due(13, "none such", x.points(4, 1), false);
        due(13, "to none", x.points(2, 4), false);
        due(13, "to none", x.points(2, -1), false);
        due(13, "refused", x.ends(2), 1);
        due(13, "to itself", x.points(2, 2), true);
        due(13, "a ring", x.ends(2), NONE);
        x.strike(2);
        due(13, "a struck one", x.points(2, 0), true);
        x.set(5);
        due(13, "a SET one", x.points(2, 1), false);
        x.later(3);
        due(13, "a later one", x.points(3, 1), true);
        x.set(1);
        pointer(x, "g", 1);
        due(13, "one that counts as LATER", x.points(4, 0), true);
    }

    private static void strikeAndLater() {
        BookOfAll x = new BookOfAll();
        article(x, "a", 1);
        article(x, "b", 1);
        article(x, "z", 1);
        pointer(x, "c", 0);
        due(14, "none such", x.strike(4), false);
        due(14, "none such", x.strike(-1), false);
        due(15, "none such", x.later(4), false);
        due(14, "an article", x.strike(0), true);
        due(14, "again", x.strike(0), false);
        due(15, "a struck one", x.later(0), false);
        due(15, "an article", x.later(1), true);
        due(15, "again", x.later(1), false);
        due(14, "a later one", x.strike(1), false);
        due(14, "how", x.is(0, 7), 1);
        due(15, "how", x.is(1, 7), 2);
        due(15, "a pointer", x.later(3), true);
        due(16, "of a struck one", x.volume(0), 0);
        due(16, "of a later one", x.volume(1), 6);
        due(16, "none such", x.volume(4), NONE);
        due(16, "none such", x.volume(-1), NONE);
        write(x, 2, writer(x, 5));
        due(33, "volume 5", x.set(5), 1);
        due(14, "its volume is SET", x.strike(2), false);
        due(15, "its volume is SET", x.later(2), false);
        due(16, "SET", x.volume(2), 5);
        article(x, "zz", 1);
        due(16, "counts as LATER", x.volume(4), 6);
        due(14, "one that counts as LATER", x.strike(4), false);
        due(15, "one that counts as LATER", x.later(4), false);
        due(15, "how it is", x.is(4, 7), 2);
    }

    private static void keysAndOrder() {
        BookOfAll x = new BookOfAll();
        String[] all = {"b", "a b", "ab", "a1", "1a", "9", "a", "the ant", "the", "de the a", "a", "10"};
        for (String s : all) {
            article(x, s, 1);
        }
        order(17, x, 0, 11, 4, 5, 6, 10, 1, 3, 2, 0, 9);
        order(17, x, 3, 8, 7);
        x.strike(1);
        x.later(3);
        order(17, x, 0, 11, 4, 5, 6, 10, 1, 2, 0, 9);
        forAll(x, "skip the;skip de;");
        due(16, "the ant", x.volume(7), 0);
        due(16, "the", x.volume(8), 3);
        due(16, "one word is left out", x.volume(9), 3);
        order(17, x, 0, 11, 4, 5, 6, 10, 1, 2, 7, 0);
        order(17, x, 3, 8, 9);
        forAll(x, "numbers last;");
        due(16, "skip isn't taken back", x.volume(7), 0);
        due(16, "a number", x.volume(5), 5);
        order(17, x, 5, 4, 11, 5);
        order(17, x, 0, 6, 10, 1, 2, 7, 0);
        due(17, "no volume", x.at(6, 0), NONE);
        due(17, "no volume", x.at(-1, 0), NONE);
        due(17, "no place", x.at(0, -1), NONE);
        due(17, "no place", x.at(0, 6), NONE);
    }

    private static void longWords() {
        BookOfAll x = new BookOfAll();
        String[] all = {"zzzzzzzz a", "azzzzzzzz b", "zzzzzzzzz c", "zzzzzzzz", "zzzzzzz d", "zzzz zzzz e"};
        for (String s : all) {
            article(x, s, 1);
        }
        forAll(x, "skip zzzzzzzz;");
        int[] volumes = {0, 0, 5, 5, 5, 5};
        for (int i = 0; i < all.length; i++) {
            due(16, all[i], x.volume(i), volumes[i]);
        }
        order(17, x, 0, 0, 1);
        order(17, x, 5, 5, 4, 3, 2);
    }

    private static void orderOfOneVolume() {
        BookOfAll x = new BookOfAll();
        String[] all = {"a b", "ab", "aa", "a1", "a c", "the b", "z z", "zz", "za"};
        for (String s : all) {
            article(x, s, 1);
        }
        order(17, x, 0, 0, 4, 3, 2, 1);
        forVolume(x, "blanks pass;numbers last;", 0);
        order(17, x, 0, 2, 0, 1, 4, 3);
        order(17, x, 5, 6, 8, 7);
        forVolume(x, "skip a;", 0);
        due(16, "volumes by what is for all", x.volume(4), 0);
        order(17, x, 0, 2, 1, 3, 0, 4);
        forVolume(x, "skip the;", 3);
        due(16, "by what is for all", x.volume(5), 3);
        for (int i = 0; i < 5; i++) {
            x.strike(i);
        }
        x.set(0);
        forAll(x, "blanks count;numbers first;skip the;");
        order(17, x, 0, 2, 1, 3, 0, 4);
        due(16, "now of a SET volume", x.volume(5), 6);
    }

    private static void reasons() {
        BookOfAll x = new BookOfAll();
        String[] all = {"a b", "aa", "the c", "d", "1", "a", "a b", "ab", "e", "the e"};
        for (String s : all) {
            article(x, s, 1);
        }
        due(18, "blanks", x.why(0, 1), 2);
        due(18, "blanks, turned", x.why(1, 0), 2);
        due(18, "numbers", x.why(4, 5), 3);
        due(18, "nothing", x.why(5, 1), 0);
        due(18, "alike", x.why(0, 6), 4);
        due(18, "no skip yet", x.why(2, 3), 0);
        forAll(x, "skip the;");
        due(18, "skip", x.why(2, 3), 1);
        due(18, "alike by skip", x.why(8, 9), 4);
        due(18, "by numbers of entries: not turned", x.why(0, 7), 0);
        due(18, "by numbers of entries: turned", x.why(6, 7), 0);
        forAll(x, "blanks pass;");
        due(18, "alike by blanks", x.why(0, 7), 4);
        due(18, "both are one", x.why(1, 1), NONE);
        due(18, "none such", x.why(0, 10), NONE);
        due(18, "none such", x.why(-1, 0), NONE);
        BookOfAll y = new BookOfAll();
        article(y, "ab", 1);
        article(y, "a b", 1);
        due(18, "alike the other way: by numbers", y.why(0, 1), 2);
        forVolume(y, "blanks pass;", 0);
        due(18, "what is for a volume is not asked", y.why(0, 1), 2);
    }

    // ---- 19 to 24: hands

    private static void handsAndEnemies() {
        BookOfAll x = new BookOfAll();
        due(19, "least", x.hand(1, 1, -40000), 0);
        due(19, "most", x.hand(255, 20, 0), 1);
        due(19, "no fields", x.hand(0, 1, 0), NONE);
        due(19, "fields", x.hand(256, 1, 0), NONE);
        due(19, "fields", x.hand(-1, 1, 0), NONE);
        due(19, "skill", x.hand(1, 0, 0), NONE);
        due(19, "skill", x.hand(1, 21, 0), NONE);
        due(19, "born", x.hand(1, 1, 1), NONE);
        due(19, "born", x.hand(1, 1, -40001), NONE);
        due(20, "two", x.enemies(0, 1), true);
        due(20, "so already", x.enemies(0, 1), false);
        due(20, "so already", x.enemies(1, 0), false);
        due(20, "one", x.enemies(0, 0), false);
        due(20, "none such", x.enemies(0, 2), false);
        due(20, "none such", x.enemies(-1, 0), false);
        for (int i = 2; i < 12; i++) {
            due(19, "more", x.hand(3, 3, -3), i);
        }
        due(19, "too many", x.hand(3, 3, -3), NONE);
        due(20, "the last", x.enemies(11, 0), true);
        due(20, "like the last", x.enemies(0, 11), false);
        x.die(3);
        due(20, "a dead one", x.enemies(3, 4), true);
    }

    private static void giveByTheDocument() {
        BookOfAll x = new BookOfAll();
        x.hand(2, 5, -365);
        x.hand(3, 5, -365);
        x.hand(3, 5, -365);
        article(x, "a", 1002);
        article(x, "b", 3);
        pointer(x, "c", 0);
        due(21, "none such", x.give(3, 0), false);
        due(21, "a pointer", x.give(2, 0), false);
        due(21, "no hand", x.give(0, 3), false);
        due(21, "no hand", x.give(0, NONE), false);
        due(21, "its field", x.give(0, 0), true);
        due(21, "not its field", x.give(1, 0), false);
        due(21, "its hand", x.is(0, 5), 0);
        due(21, "to another", x.give(0, 1), true);
        due(21, "its hand", x.is(0, 5), 1);
        x.enemies(1, 2);
        due(21, "an enemy who wrote nothing", x.give(0, 2), true);
        due(21, "back", x.give(0, 1), true);
        x.line(0, NONE, 0);
        due(21, "an enemy of who wrote", x.give(0, 2), false);
        due(21, "one who is none", x.give(0, 0), true);
        due(21, "still an enemy of who wrote", x.give(0, 2), false);
        x.line(0, NONE, 0);
        due(21, "a DONE one", x.give(0, 0), false);
        x.die(1);
        due(21, "a dead one", x.give(1, 1), false);
        x.strike(1);
        due(21, "a STRUCK one", x.give(1, 2), false);
        due(33, "volume 0", x.set(0), 1);
        article(x, "d", 1);
        due(21, "one that is LATER", x.give(3, 2), true);
    }

    /** Whether a HAND may write by a condition: an ARTICLE of VOLUME 2 with 2 LINES, a FACT, a POINTER. */
    private static boolean mayWrite(String condition) {
        BookOfAll x = new BookOfAll();
        x.hand(8, 7, -800);
        writer(x, 3);
        article(x, "m", 13009);
        article(x, "n", 3001);
        article(x, "o", 3001);
        pointer(x, "p", 0);
        pointer(x, "q", 0);
        pointer(x, "r", 3);
        x.strike(4);
        x.tell(7, 1, 1);
        x.give(0, 1);
        x.line(0, 7, 0);
        x.line(0, 7, 0);
        x.line(0, 100, 0);
        x.give(1, 0);
        x.go(300);
        forAll(x, "write " + condition + ";");
        return x.give(0, 0);
    }

    private static void giveByRules() {
        String[] hold = {"asked=9", "lines=3", "facts=1", "points=1", "field=3", "skill=7", "age=3", "volume=2", "late=1",
            "1<2 or 2<1 and 2<1", "not 2<1", "not 1=1 or 1=1", "[1=1 or 1=1] and 2>1", "not [1=1 and 2=1]",
            "asked>8 and asked<10", "not not 1=1"};
        for (String s : hold) {
            due(21, s, mayWrite(s), true);
        }
        String[] not = {"asked>9", "lines<3", "facts=2", "points=2", "field=4", "skill<7", "age=2", "volume=0", "late=2",
            "[1<2 or 2<1] and 2<1", "not 1=1", "not [1=1 or 1=1]", "not 1=1 and 1=1", "1>1", "1<1", "1=2"};
        for (String s : not) {
            due(21, s, mayWrite(s), false);
        }
        BookOfAll x = new BookOfAll();
        writer(x, 3);
        article(x, "a", 1);
        article(x, "f", 1);
        article(x, "g", 1);
        forVolume(x, "write 1=2;", 1);
        due(21, "the rule of another volume", x.give(0, 0), true);
        due(21, "the rule of its volume", x.give(1, 0), false);
        x.later(2);
        due(21, "LATER: for all alone", x.give(2, 0), true);
        forAll(x, "write volume=6;");
        due(21, "LATER is volume 6", x.give(2, 0), true);
        due(21, "no other is", x.give(0, 0), false);
    }

    /** What a sum comes to, as PAY of a LINE. */
    private static int pay(String sum) {
        BookOfAll x = new BookOfAll();
        writer(x, 4);
        article(x, "a", 10020);
        forAll(x, "pay plain " + sum + ";");
        x.give(0, 0);
        x.line(0, NONE, 0);
        return x.told(0, 6);
    }

    private static void values() {
        String[] sums = {"1+2*3", "(1+2)*3", "10-2-3", "20/2/5", "7/2", "0-7/2", "10-7/2", "5/0", "5/(2-2)+1", "0-5", "99999*99999",
            "99999*99999-1", "0-99999*99999-5+99999*99999+7", "99999*10+99999", "asked*skill", "(0-7)/2+10", "2*3+4*5-6/2", "((2))", "100-99999*99999+99999*99999",
            "lines+1", "late", "99999*99999/1000"};
        int[] due = {7, 9, 5, 2, 3, 0, 7, 0, 1, 0, 1000000, 999999, 7, 1000000, 80, 7, 23, 2, 100, 1, 1, 1000};
        for (int i = 0; i < sums.length; i++) {
            due(32, "pay plain " + sums[i], pay(sums[i]), due[i]);
        }
        BookOfAll x = new BookOfAll();
        writer(x, 4);
        article(x, "a", 2);
        x.give(0, 0);
        x.line(0, NONE, 0);
        due(32, "pay without a rule", x.told(0, 6), 1);
        forAll(x, "pay plain 7;");
        x.line(0, NONE, 0);
        due(32, "pay of another K", x.told(1, 6), 1);
        due(49, "pay of all", x.count(8), 2);
    }

    private static void linesWritten() {
        BookOfAll x = new BookOfAll();
        writer(x, 4);
        article(x, "a", 4);
        pointer(x, "b", 0);
        due(22, "not GIVEN", x.line(0, NONE, 0), NONE);
        x.give(0, 0);
        due(22, "not KNOWN", x.line(0, 3, 0), NONE);
        x.tell(3, 12, 0);
        due(22, "on a fact", x.line(0, 3, 0), 0);
        due(22, "no such fact", x.line(0, 40, 0), NONE);
        due(22, "no such line", x.line(0, 99, 0), NONE);
        due(22, "itself", x.line(0, 101, 0), NONE);
        due(22, "below", x.line(0, -2, 0), NONE);
        due(22, "far", x.line(0, Integer.MAX_VALUE, 0), NONE);
        due(22, "far", x.line(0, Integer.MIN_VALUE, 0), NONE);
        due(22, "term", x.line(0, NONE, 31), NONE);
        due(22, "term", x.line(0, NONE, -1), NONE);
        due(22, "none such", x.line(2, NONE, 0), NONE);
        due(22, "a pointer", x.line(1, NONE, 0), NONE);
        due(22, "on a line", x.line(0, 100, 30), 1);
        due(22, "on nothing", x.line(0, NONE, 0), 2);
        due(48, "lines", x.is(0, 4), 3);
        due(48, "not DONE", x.is(0, 6), 0);
        due(22, "the last", x.line(0, NONE, 0), 3);
        due(48, "DONE", x.is(0, 6), 1);
        due(22, "a DONE one", x.line(0, NONE, 0), NONE);
        article(x, "c", 9);
        article(x, "d", 9);
        article(x, "e", 9);
        x.give(2, 0);
        x.give(3, 0);
        x.give(4, 0);
        x.strike(2);
        due(22, "a STRUCK one", x.line(2, NONE, 0), NONE);
        x.later(3);
        due(22, "a LATER one", x.line(3, NONE, 0), NONE);
        due(22, "another", x.line(4, NONE, 0), 4);
        x.die(0);
        due(22, "of a dead hand", x.line(4, NONE, 0), NONE);
        due(22, "refused", x.count(3), 5);
    }

    private static void deaths() {
        BookOfAll x = new BookOfAll();
        writer(x, 1);
        x.hand(255, 9, -365 * 20);
        writer(x, 3);
        x.hand(2, 3, 0);
        for (int i = 0; i < 5; i++) {
            article(x, "a", 2);
        }
        x.give(0, 0);
        x.give(1, 0);
        x.give(2, 0);
        x.give(3, 1);
        write(x, 1, 0);
        x.line(0, NONE, 0);
        due(24, "does not hang", x.takers(0), NONE);
        due(48, "does not hang", x.is(0, 8), 0);
        x.strike(2);
        due(23, "none such", x.die(4), NONE);
        due(23, "none such", x.die(NONE), NONE);
        due(23, "one hangs", x.die(0), 1);
        due(23, "dead", x.die(0), NONE);
        due(49, "lives", x.count(30), 0);
        due(48, "hangs", x.is(0, 8), 1);
        due(48, "DONE", x.is(1, 8), 0);
        due(48, "STRUCK", x.is(2, 8), 0);
        due(48, "of another", x.is(3, 8), 0);
        due(48, "of nobody", x.is(4, 8), 0);
        due(24, "takers", x.takers(0), 6);
        due(24, "none that hangs", x.takers(1), NONE);
        due(24, "none such", x.takers(5), NONE);
        x.enemies(0, 2);
        due(24, "an enemy of who wrote", x.takers(0), 2);
        forAll(x, "write skill<9;");
        due(24, "nobody", x.takers(0), 0);
        forAll(x, "write late=1;");
        due(24, "by late of each", x.takers(0), 2);
        due(21, "given on", x.give(0, 1), true);
        due(24, "does not hang now", x.takers(0), NONE);
        due(23, "two hang", x.die(1), 2);
        x.strike(3);
        due(48, "STRUCK ones don't", x.is(3, 8), 0);
        due(23, "nothing hangs", x.die(2), 0);
    }

    // ---- 25 to 32: facts and lines

    private static void facts() {
        BookOfAll x = new BookOfAll();
        due(26, "not known", x.known(0, 0, 0), NONE);
        due(25, "told", x.tell(0, 0, 0), true);
        due(25, "told", x.tell(39, 999, 7), true);
        due(25, "no fact", x.tell(40, 0, 0), false);
        due(25, "no fact", x.tell(-1, 0, 0), false);
        due(25, "value", x.tell(0, 1000, 0), false);
        due(25, "value", x.tell(0, -1, 0), false);
        due(25, "source", x.tell(0, 0, -1), false);
        x.go(10);
        x.tell(0, 5, 3);
        x.tell(0, 6, 4);
        due(26, "the latest", x.known(0, 10, 0), 6);
        due(26, "by whom", x.known(0, 10, 1), 4);
        due(26, "ahead of it", x.known(0, 9, 0), 0);
        due(26, "by whom", x.known(0, 9, 1), 0);
        due(26, "later", x.known(0, 2000, 0), 6);
        due(26, "no day", x.known(0, 2001, 0), NONE);
        due(26, "no day", x.known(0, -1, 0), NONE);
        due(26, "no fact", x.known(40, 10, 0), NONE);
        due(26, "no fact", x.known(-1, 10, 0), NONE);
        due(26, "others", x.known(0, 10, 2), NONE);
        due(26, "others", x.known(0, 10, -1), NONE);
        due(26, "another fact", x.known(39, 0, 0), 999);
        x.tell(1, 8, 8);
        due(26, "not known then", x.known(1, 9, 0), NONE);
    }

    private static void staleLines() {
        BookOfAll x = new BookOfAll();
        writer(x, 4);
        article(x, "a", 5);
        article(x, "b", 3);
        pointer(x, "c", 0);
        x.give(0, 0);
        x.give(1, 0);
        x.go(5);
        x.tell(0, 1, 0);
        x.line(0, 0, 0);
        x.line(1, 100, 0);
        x.line(0, 101, 0);
        x.line(0, NONE, 0);
        x.line(0, 103, 0);
        due(27, "known then", x.stale(0, 5), false);
        due(27, "not known then", x.stale(0, 4), true);
        due(27, "through all", x.stale(2, 4), true);
        due(27, "on nothing", x.stale(3, 4), false);
        due(27, "on one on nothing", x.stale(4, 4), false);
        x.go(5);
        x.tell(0, 2, 0);
        due(27, "known otherwise", x.stale(0, 10), true);
        due(27, "the day ahead", x.stale(0, 9), false);
        due(27, "through one", x.stale(1, 10), true);
        due(27, "through two", x.stale(2, 2000), true);
        due(27, "no day", x.stale(2, 2001), false);
        due(27, "no day", x.stale(2, -1), false);
        due(27, "none such", x.stale(5, 10), false);
        due(27, "none such", x.stale(-1, 10), false);
        due(28, "of one", x.stales(0), 2);
        due(28, "of another", x.stales(1), 1);
        due(28, "of a pointer", x.stales(2), 0);
        due(28, "none such", x.stales(3), NONE);
        x.go(1);
        x.tell(0, 1, 5);
        due(27, "as it was", x.stale(2, 11), false);
        due(28, "none now", x.stales(0), 0);
        due(27, "but then", x.stale(2, 10), true);
    }

    private static void mendedLines() {
        BookOfAll x = new BookOfAll();
        writer(x, 4);
        article(x, "a", 3);
        article(x, "b", 3);
        x.give(0, 0);
        x.give(1, 0);
        x.tell(0, 1, 0);
        x.line(0, 0, 0);
        x.line(0, 100, 0);
        x.line(1, 0, 0);
        x.tell(0, 2, 0);
        due(29, "mended", x.mend(0), 2);
        due(29, "keeps", x.told(0, 0), 2);
        due(29, "on a line", x.mend(1), NONE);
        due(29, "none such", x.mend(3), NONE);
        due(29, "none such", x.mend(-1), NONE);
        due(29, "another is as it was", x.told(2, 0), 1);
        due(27, "no more", x.stale(1, 0), false);
        x.later(1);
        due(29, "of one LATER", x.mend(2), 2);
        x.line(0, NONE, 0);
        x.set(0);
        due(29, "on nothing", x.mend(3), NONE);
        x.tell(0, 3, 0);
        due(29, "SET", x.mend(0), NONE);
        due(29, "keeps", x.told(0, 0), 2);
        due(29, "still not SET", x.mend(2), 3);
    }

    private static void errataOfLines() {
        BookOfAll x = new BookOfAll();
        writer(x, 4);
        article(x, "a", 3);
        x.give(0, 0);
        x.tell(0, 1, 0);
        x.line(0, 0, 0);
        x.line(0, 0, 0);
        x.line(0, 100, 0);
        due(30, "not SET", x.erratum(0, 1, 2), NONE);
        x.set(0);
        due(30, "SET", x.erratum(0, 1, 2), 0);
        due(30, "on a line", x.erratum(2, 1, 2), NONE);
        due(30, "none such", x.erratum(3, 1, 2), NONE);
        due(30, "is", x.erratum(0, -1, 2), NONE);
        due(30, "is", x.erratum(0, 1000, 2), NONE);
        due(30, "should", x.erratum(0, 2, -1), NONE);
        due(30, "should", x.erratum(0, 2, 1000), NONE);
        due(30, "is", x.erratum(0, 1000, 1000), NONE);
        due(31, "meets", x.misses(0), 0);
        due(30, "again", x.erratum(0, 1, 3), 1);
        due(31, "misses", x.misses(1), 1);
        due(32, "applied", x.told(0, 1), 2);
        due(32, "another", x.told(1, 1), 1);
        due(32, "keeps", x.told(0, 0), 1);
        due(27, "stale by an erratum", x.stale(0, 0), true);
        due(27, "through it", x.stale(2, 0), true);
        due(27, "not another", x.stale(1, 0), false);
        x.go(4);
        due(30, "later", x.erratum(0, 2, 1), 2);
        due(31, "meets what an erratum made", x.misses(2), 0);
        due(27, "stale up to that day", x.stale(0, 3), true);
        due(27, "no more", x.stale(0, 4), false);
        due(31, "none such", x.misses(3), NONE);
        due(31, "none such", x.misses(-1), NONE);
        due(30, "the ends", x.erratum(1, 1, 999), 3);
        due(30, "the ends", x.erratum(1, 999, 0), 4);
        due(32, "applied in order", x.told(1, 1), 0);
        due(30, "the ends", x.erratum(1, 0, 1), 5);
        due(31, "meets", x.misses(5), 0);
        for (int i = 6; i < 60; i++) {
            due(30, "more", x.erratum(1, 999, 0), i);
        }
        due(30, "too many", x.erratum(1, 1, 0), NONE);
        due(49, "errata", x.count(5), 60);
    }

    private static void toldOfLines() {
        BookOfAll x = new BookOfAll();
        writer(x, 4);
        writer(x, 5);
        article(x, "b", 2);
        plate(x, "a", 0, 1);
        plate(x, "aa", 0, 1);
        plate(x, "aaa", 0, 1);
        plate(x, "aab", 0, 1);
        article(x, "ab", 2);
        forAll(x, "pay short skill;");
        x.tell(9, 77, 0);
        x.give(0, 0);
        x.line(0, 9, 1);
        x.give(0, 1);
        x.line(0, 100, 1);
        write(x, 5, 0);
        int[] first = {77, 77, 9, NONE, 0, NONE, 4, 0};
        int[] second = {NONE, NONE, NONE, 0, 0, NONE, 5, 1};
        for (int what = 0; what < 8; what++) {
            due(32, "what " + what, x.told(0, what), first[what]);
            due(32, "what " + what, x.told(1, what), second[what]);
        }
        due(32, "others", x.told(0, 8), NONE);
        due(32, "others", x.told(0, -1), NONE);
        due(32, "none such", x.told(4, 0), NONE);
        due(32, "none such", x.told(-1, 4), NONE);
        due(33, "pages", x.set(0), 2);
        due(32, "page", x.told(0, 5), 2);
        due(34, "the page behind 40 lines", x.page(5), 2);
        due(34, "a full page", x.page(4), 1);
    }

    // ---- 33 to 39: volumes that are set

    private static void settingVolumes() {
        BookOfAll x = new BookOfAll();
        writer(x, 4);
        article(x, "a", 39);
        article(x, "b", 2);
        article(x, "c", 5);
        pointer(x, "d", 1);
        article(x, "e", 5);
        plate(x, "ee", 0, 1);
        due(33, "not DONE", x.set(0), NONE);
        due(34, "not laid", x.page(0), NONE);
        write(x, 0, 0);
        write(x, 1, 0);
        x.strike(2);
        due(33, "one is not", x.set(0), NONE);
        x.later(4);
        due(33, "no volume", x.set(6), NONE);
        due(33, "no volume", x.set(-1), NONE);
        due(33, "SET", x.set(0), 2);
        due(33, "not OPEN", x.set(0), NONE);
        due(34, "first", x.page(0), 1);
        due(34, "begins on the first", x.page(1), 1);
        due(32, "its second line", x.told(40, 5), 2);
        due(34, "STRUCK", x.page(2), NONE);
        due(34, "pointer", x.page(3), 2);
        due(34, "LATER", x.page(4), NONE);
        due(34, "plate", x.page(5), 2);
        due(34, "none such", x.page(6), NONE);
        due(34, "none such", x.page(-1), NONE);
        order(17, x, 0, 0, 1, 2, 3, 5);
        due(33, "an empty one", x.set(5), 0);
        due(49, "SET", x.count(6), 33);
        forAll(x, "skip a;numbers last;blanks pass;");
        order(17, x, 0, 0, 1, 2, 3, 5);
        due(16, "STRUCK ones for good", x.volume(2), 0);
        due(16, "told LATER", x.volume(4), 6);
        BookOfAll y = new BookOfAll();
        pointer(y, "a", article(y, "z", 1));
        for (int i = 0; i < 4; i++) {
            plate(y, "b", 0, 1);
        }
        due(33, "41 lines", y.set(0), 2);
        article(y, "f", 40);
        write(y, 6, writer(y, 1));
        due(33, "40 lines", y.set(1), 1);
    }

    private static void mustHold() {
        BookOfAll x = new BookOfAll();
        writer(x, 4);
        article(x, "a", 2);
        article(x, "b", 1);
        write(x, 0, 0);
        write(x, 1, 0);
        forAll(x, "must asked>1;");
        due(33, "must doesn't hold", x.set(0), NONE);
        forVolume(x, "must skill=4 and age=30 and late=0 and volume=0 and lines=asked;", 0);
        due(33, "must for it", x.set(0), 1);
        article(x, "f", 1);
        write(x, 2, 0);
        due(33, "must for all", x.set(1), NONE);
        article(x, "z", 1);
        x.strike(3);
        due(33, "not of STRUCK ones", x.set(5), 0);
        pointer(x, "m", 0);
        due(33, "nor of pointers", x.set(2), 1);
    }

    private static void laterArticles() {
        BookOfAll x = new BookOfAll();
        writer(x, 4);
        article(x, "7", 1);
        article(x, "z", 1);
        x.strike(1);
        x.set(0);
        due(33, "a number in volume 0 can't be", x.count(6), 0);
        write(x, 0, 0);
        due(33, "volume 5", x.set(5), 0);
        forAll(x, "numbers last;");
        due(16, "its volume is SET now", x.volume(0), 6);
        due(22, "no line", x.line(0, NONE, 0), NONE);
        due(33, "volume 0 is empty", x.set(0), 0);
        forAll(x, "numbers first;");
        due(16, "of a SET one again", x.volume(0), 6);
        due(32, "its page", x.told(0, 5), NONE);
    }

    private static void promisesOfPointers() {
        BookOfAll x = new BookOfAll();
        writer(x, 4);
        article(x, "a", 1);
        article(x, "f", 1);
        article(x, "k", 1);
        article(x, "l", 1);
        plate(x, "z", 0, 1);
        for (int i = 0; i < 5; i++) {
            pointer(x, "p", i);
        }
        pointer(x, "q", 5);
        pointer(x, "r", 10);
        x.strike(2);
        x.later(3);
        due(35, "OPEN", x.promise(5), 1);
        due(35, "OPEN through pointers", x.promise(11), 1);
        due(36, "ENDS", x.ends(11), 0);
        due(36, "ENDS at a plate", x.ends(9), 4);
        due(36, "ENDS at a STRUCK one", x.ends(7), 2);
        write(x, 0, 0);
        x.set(0);
        due(35, "KEPT", x.promise(5), 0);
        due(35, "KEPT through pointers", x.promise(11), 0);
        due(35, "OPEN", x.promise(6), 1);
        due(35, "STRUCK", x.promise(7), 2);
        due(35, "LATER", x.promise(8), 2);
        due(35, "a plate", x.promise(9), 1);
        x.set(5);
        due(35, "a SET plate", x.promise(9), 0);
        due(35, "no pointer", x.promise(0), NONE);
        due(35, "none such", x.promise(12), NONE);
        due(36, "no pointer", x.ends(0), NONE);
        due(36, "none such", x.ends(-1), NONE);
        x.strike(10);
        due(35, "STRUCK itself", x.promise(10), NONE);
        due(36, "ends, though STRUCK", x.ends(10), 0);
        due(35, "STRUCK on the way", x.promise(11), 2);
        x.later(9);
        due(35, "LATER itself", x.promise(9), NONE);
        x.points(11, 9);
        due(35, "LATER on the way", x.promise(11), 2);
        x.points(5, 6);
        x.points(6, 5);
        x.points(11, 5);
        due(35, "in a ring", x.promise(5), 3);
        due(35, "into a ring", x.promise(11), 3);
        due(36, "in a ring", x.ends(6), NONE);
        due(36, "into a ring", x.ends(11), NONE);
        BookOfAll y = new BookOfAll();
        article(y, "z", 1);
        y.strike(0);
        pointer(y, "a", 0);
        y.set(5);
        due(35, "cut", y.promise(1), 2);
    }

    private static void promisedByHands() {
        BookOfAll x = new BookOfAll();
        writer(x, 4);
        writer(x, 4);
        article(x, "a", 1);
        article(x, "b", 1);
        article(x, "c", 1);
        pointer(x, "p", 0);
        pointer(x, "q", 3);
        pointer(x, "r", 1);
        pointer(x, "s", 2);
        pointer(x, "t", 0);
        x.give(0, 0);
        x.give(1, 1);
        due(37, "lives", x.promised(0), 0);
        x.die(0);
        due(37, "three", x.promised(0), 3);
        due(37, "of another", x.promised(1), 0);
        x.strike(7);
        due(37, "not STRUCK ones", x.promised(0), 2);
        x.strike(3);
        due(37, "through a STRUCK one", x.promised(0), 1);
        x.later(4);
        due(37, "LATER ones too", x.promised(0), 1);
        x.give(0, 1);
        due(37, "given on", x.promised(0), 0);
        x.die(1);
        due(37, "two hang", x.promised(1), 2);
        due(37, "none such", x.promised(2), NONE);
        due(37, "none such", x.promised(-1), NONE);
    }

    private static void subscribers() {
        BookOfAll x = new BookOfAll();
        due(38, "one", x.subscribe(0, 0, 1), true);
        due(38, "there", x.subscribe(0, 1, 2), false);
        due(38, "the last", x.subscribe(9, 5, 999), true);
        due(38, "nobody", x.subscribe(10, 0, 1), false);
        due(38, "nobody", x.subscribe(-1, 0, 1), false);
        due(38, "no volume", x.subscribe(1, 6, 1), false);
        due(38, "no volume", x.subscribe(1, -1, 1), false);
        due(38, "price", x.subscribe(1, 0, 0), false);
        due(38, "price", x.subscribe(1, 0, 1000), false);
        due(38, "one", x.subscribe(1, 1, 100), true);
        due(38, "one", x.subscribe(2, 0, 999), true);
        article(x, "f", 3);
        article(x, "g", 3);
        article(x, "h", 3);
        pointer(x, "i", 0);
        plate(x, "j", 0, 1);
        write(x, 2, writer(x, 2));
        x.strike(0);
        x.strike(1);
        forAll(x, "owe 10*late+lines*volume+asked+skill+points+age+field+facts;");
        due(39, "not SET", x.owed(1, 1), NONE);
        x.set(0);
        x.set(1);
        due(39, "owed", x.owed(1, 1), 34);
        due(39, "owed for none struck", x.owed(2, 0), 0);
        due(39, "from a volume on", x.owed(1, 0), NONE);
        due(39, "PRICE at most", x.owed(0, 1), 1);
        due(39, "no subscriber", x.owed(3, 1), NONE);
        due(39, "nobody", x.owed(10, 1), NONE);
        due(39, "no volume", x.owed(0, 6), NONE);
        x.go(1);
        forAll(x, "owe 0-5;");
        due(39, "the rule of that day", x.owed(1, 1), 34);
        x.set(2);
        due(39, "0 at least", x.owed(1, 2), 0);
        due(38, "behind a SET one", x.subscribe(4, 0, 50), true);
        due(39, "of a SET one", x.owed(4, 1), 34);
        BookOfAll y = new BookOfAll();
        y.subscribe(0, 0, 9);
        y.set(3);
        due(39, "without a rule", y.owed(0, 3), 0);
        y.subscribe(1, 3, 9);
        forVolume(y, "owe 5;", 2);
        y.set(2);
        due(39, "the rule for it", y.owed(0, 2), 5);
        due(39, "from a volume on", y.owed(1, 3), 0);
    }

    // ---- 40 to 43: lengths and giving

    private static void lengthsOfVolumes() {
        BookOfAll x = new BookOfAll();
        due(40, "nothing", x.lengths(0, 7), 0);
        article(x, "b", 10);
        article(x, "a", 20);
        article(x, "c", 5);
        due(40, "whole as it is", x.lengths(0, 7), 0);
        due(41, "as asked", x.length(0, 7), 10);
        pointer(x, "d", 0);
        due(40, "one less", x.lengths(0, 7), 1);
        due(41, "the earliest", x.length(1, 7), 19);
        due(41, "as asked", x.length(0, 7), 10);
        plate(x, "e", 0, 1);
        due(40, "46 lines: two up", x.lengths(0, 16), 2);
        due(41, "the earliest", x.length(1, 16), 22);
        due(40, "46 lines by 92: fewer lines can't be", x.lengths(0, 92), 46);
        due(41, "up", x.length(1, 92), 66);
        due(40, "46 lines by 23", x.lengths(0, 23), 0);
        due(40, "46 lines by 4: down, of like ones", x.lengths(0, 4), 2);
        due(41, "down", x.length(1, 4), 18);
        due(40, "46 lines by 30", x.lengths(0, 30), 14);
        due(41, "60 lines", x.length(1, 30), 34);
        due(40, "46 lines by 26", x.lengths(0, 26), 6);
        due(40, "46 lines by 29: 17 down", x.lengths(0, 29), 12);
        due(40, "46 lines by 34: 12 down", x.lengths(0, 34), 12);
        due(40, "46 lines by 24: 22 down, 2 up", x.lengths(0, 24), 2);
        due(40, "46 lines by 18", x.lengths(0, 18), 8);
        due(40, "46 lines by 20", x.lengths(0, 20), 6);
        due(41, "20", x.length(1, 20), 14);
        x.strike(1);
        due(40, "26 lines", x.lengths(0, 20), 6);
        due(41, "10", x.length(0, 20), 4);
        due(41, "5", x.length(2, 20), 5);
        due(41, "STRUCK", x.length(1, 20), NONE);
        due(40, "26 lines by 15: 11 down", x.lengths(0, 15), 4);
        due(40, "26 lines by 14: 12 down, 2 up", x.lengths(0, 14), 2);
        due(40, "26 lines by 13", x.lengths(0, 13), 0);
        due(41, "a pointer", x.length(3, 13), NONE);
        due(41, "none such", x.length(5, 13), NONE);
        due(40, "s", x.lengths(0, 0), NONE);
        due(40, "s", x.lengths(0, 401), NONE);
        due(41, "s", x.length(0, 401), NONE);
        due(40, "s", x.lengths(0, 400), 374);
        due(40, "no volume", x.lengths(6, 5), NONE);
        due(40, "no volume", x.lengths(-1, 5), NONE);
        x.later(2);
        due(41, "LATER", x.length(2, 5), NONE);
        due(40, "21 lines", x.lengths(0, 5), 1);
        x.strike(0);
        due(40, "11 lines that stay", x.lengths(0, 5), NONE);
        due(40, "11 lines that stay", x.lengths(0, 11), 0);
        x.set(0);
        due(40, "SET", x.lengths(0, 11), NONE);
    }

    private static void lengthsWithinEnds() {
        BookOfAll x = new BookOfAll();
        article(x, "a", 10);
        article(x, "b", 10010);
        article(x, "c", 20010);
        article(x, "d", 10);
        forAll(x, "least short 8;most short 12;least plain 15;most long 4;");
        // 10 + 15 + 4 + 10 = 39, with 5 and 6 too many or too few already
        due(40, "as it is", x.lengths(0, 39), 11);
        due(40, "two up", x.lengths(0, 41), 13);
        due(41, "the earliest", x.length(0, 41), 12);
        due(41, "as asked", x.length(3, 41), 10);
        due(40, "five up", x.lengths(0, 44), 16);
        due(41, "as far as can be", x.length(0, 44), 12);
        due(41, "then the next", x.length(1, 44), 18);
        due(41, "at its end", x.length(2, 44), 4);
        due(41, "as asked", x.length(3, 44), 10);
        due(40, "seven down, one too many: eleven", x.lengths(0, 32), 18);
        due(41, "down to its end", x.length(0, 32), 8);
        due(41, "at its end", x.length(1, 32), 15);
        due(41, "the third goes down", x.length(2, 32), 1);
        due(41, "the fourth", x.length(3, 32), 8);
        due(40, "all lines are above 31", x.lengths(0, 31), 34);
        forAll(x, "most short 5;least long 20;most plain 0;");
        // short: least counts as 5; long: least counts as 4; plain: 1
        due(40, "5 + 1 + 4 + 5", x.lengths(0, 15), 5 + 9 + 6 + 5);
        due(40, "nothing else can be", x.lengths(0, 16), NONE);
        due(41, "nothing else can be", x.length(0, 16), NONE);
        due(41, "short", x.length(3, 15), 5);
        due(41, "plain", x.length(1, 15), 1);
        forAll(x, "most plain 99999;least plain 99999;");
        due(41, "400 at most", x.length(1, 2), 400);
        forVolume(x, "most plain asked-1;", 0);
        due(41, "by its names and for its volume", x.length(1, 1), 9);
        forAll(x, "most plain 1+skill+age+late;");
        due(41, "without a HAND", x.length(1, 1), 1);
        x.give(1, x.hand(255, 5, -365 * 2));
        due(41, "with a HAND", x.length(1, 1), 1 + 5 + 2 + 1);
        for (int k = 0; k < 3; k++) {
            BookOfAll y = new BookOfAll();
            article(y, "a", 10000 * k + 2);
            plate(y, "b", 0, 1);
            due(40, "least without a rule", y.lengths(0, 11), 1);
            due(41, "least without a rule", y.length(0, 11), 1);
            article(y, "f", 10000 * k + 200);
            due(40, "most without a rule", y.lengths(1, 400), 200);
            due(41, "most without a rule", y.length(2, 400), 400);
            pointer(y, "g", 0);
            due(40, "399 and a pointer", y.lengths(1, 400), 199);
            article(y, "k", 10000 * k + 200);
            article(y, "l", 10000 * k + 200);
            article(y, "m", 10000 * k + 200);
            due(40, "of like ones the fewest lines", y.lengths(2, 400), 200);
            due(41, "down to least", y.length(4, 400), 1);
            due(41, "one line more", y.length(5, 400), 199);
            due(41, "as asked", y.length(6, 400), 200);
        }
    }

    private static void givingArticles() {
        BookOfAll x = new BookOfAll();
        x.hand(255, 2, 0);
        x.hand(255, 3, 0);
        x.hand(255, 5, 0);
        x.hand(255, 20, 0);
        article(x, "a", 10);
        article(x, "b", 10);
        article(x, "c", 20);
        pointer(x, "d", 0);
        article(x, "e", 1);
        due(42, "a hand for 5 days", x.giving(1, 1, 5), 1);
        due(42, "a begun day", x.giving(1, 1, 4), 0);
        due(42, "three a day", x.giving(1, 2, 4), 1);
        due(42, "three a day", x.giving(1, 2, 3), 0);
        due(43, "given", x.given(1, 2, 4, 0), 1);
        due(43, "none", x.given(1, 2, 3, 0), NONE);
        due(42, "both by one", x.giving(3, 4, 4), 2);
        due(42, "one by one", x.giving(3, 4, 3), 1);
        due(43, "the first way", x.given(3, 4, 3, 0), 2);
        due(43, "the other none", x.given(3, 4, 3, 1), NONE);
        due(42, "days of all it gets, not of each", x.giving(3, 2, 7), 2);
        due(42, "20 lines by 3", x.giving(3, 2, 6), 1);
        due(43, "fewest lines", x.given(5, 2, 7, 0), 1);
        due(43, "fewest lines", x.given(5, 2, 7, 2), NONE);
        due(42, "the fewer lines ahead", x.giving(20, 1, 4), 1);
        due(43, "the fewer lines ahead", x.given(20, 1, 4, 4), 0);
        due(43, "hands by numbers", x.given(1, 15, 5, 0), 0);
        due(43, "first", x.given(7, 5, 5, 0), 0);
        due(43, "second", x.given(7, 5, 5, 1), 2);
        due(43, "as many as can be", x.given(7, 5, 5, 2), NONE);
        due(42, "as many as can be", x.giving(7, 5, 5), 2);
        due(43, "more days", x.given(7, 5, 10, 2), 2);
        due(43, "more days", x.given(7, 5, 10, 1), 0);
        due(42, "all", x.giving(7, 15, 5), 3);
        due(43, "not asked for", x.given(1, 15, 5, 1), NONE);
        due(43, "none such", x.given(1, 15, 5, -1), NONE);
        due(42, "no articles", x.giving(0, 1, 5), NONE);
        due(42, "no hands", x.giving(1, 0, 5), NONE);
        due(42, "no days", x.giving(1, 1, 0), NONE);
        due(42, "days", x.giving(1, 1, 401), NONE);
        due(42, "days", x.giving(1, 1, 400), 1);
        due(42, "a pointer", x.giving(8, 1, 5), NONE);
        due(42, "none such", x.giving(32, 1, 5), NONE);
        due(42, "none such", x.giving(1 << 30, 1, 5), NONE);
        due(42, "none such", x.giving(Integer.MIN_VALUE, 1, 5), NONE);
        due(42, "no hand", x.giving(1, 16, 5), NONE);
        due(42, "no hand", x.giving(1, 1 << 12, 5), NONE);
        due(42, "below", x.giving(1, -1, 5), NONE);
        due(43, "can't be", x.given(1, 16, 5, 0), NONE);
        x.give(0, 0);
        due(42, "GIVEN to one that lives", x.giving(1, 2, 5), NONE);
        x.line(0, NONE, 0);
        x.die(0);
        due(42, "that hangs", x.giving(1, 2, 3), 1);
        due(42, "dead", x.giving(1, 1, 5), NONE);
        x.strike(1);
        due(42, "STRUCK", x.giving(2, 2, 5), NONE);
        write(x, 4, 1);
        due(42, "DONE", x.giving(16, 2, 5), NONE);
        due(42, "nothing is done by it", x.is(0, 5), 0);
    }

    private static void givingByMay() {
        BookOfAll x = new BookOfAll();
        for (int h = 0; h < 7; h++) {
            x.hand(h < 3 ? 1 << h : 255, 1 + h, 0);
        }
        for (int i = 0; i < 8; i++) {
            article(x, "a", 1000 * (i % 3) + 4);
        }
        due(42, "seven articles", x.giving(127, 63, 4), 7);
        due(42, "eight", x.giving(255, 63, 4), NONE);
        due(42, "seven hands", x.giving(1, 127, 4), NONE);
        due(42, "by fields", x.giving(127, 7, 4), 5);
        // of field 0: 0, 3, 6; hand 0 writes a line a day
        due(43, "first", x.given(127, 7, 4, 0), 0);
        due(43, "no more", x.given(127, 7, 4, 3), NONE);
        due(43, "field 1", x.given(127, 7, 4, 1), 1);
        due(43, "field 1", x.given(127, 7, 4, 4), 1);
        due(43, "field 2", x.given(127, 7, 4, 2), 2);
        due(43, "field 2", x.given(127, 7, 4, 5), 2);
        due(43, "no more", x.given(127, 7, 4, 6), NONE);
        BookOfAll y = new BookOfAll();
        for (int h = 0; h < 7; h++) {
            y.hand(255, 1, 0);
        }
        for (int i = 0; i < 7; i++) {
            article(y, "a", 4);
        }
        due(42, "six hands for one each", y.giving(127, 126, 4), 6);
        for (int i = 0; i < 6; i++) {
            due(43, "each to one", y.given(127, 126, 4, i), 1 + i);
        }
        due(43, "the last to none", y.given(127, 126, 4, 6), NONE);
        due(42, "one hand alone", y.giving(127, 2, 4), 1);
        forAll(x, "write late<1 and field<2;");
        due(42, "by write, as it is NOW", x.giving(6, 8, 9), 1);
        x.later(0);
        due(42, "LATER ones, too", x.giving(1, 8, 9), 1);
    }

    // ---- 44 to 49

    private static void indexOfTerms() {
        BookOfAll x = new BookOfAll();
        writer(x, 4);
        article(x, "a", 39);
        article(x, "b", 43);
        article(x, "c", 2);
        x.give(0, 0);
        x.give(1, 0);
        x.give(2, 0);
        for (int i = 0; i < 39; i++) {
            x.line(0, NONE, i == 0 || i == 38 ? 7 : 0);
        }
        for (int i = 0; i < 43; i++) {
            x.line(1, NONE, i == 0 ? 30 : i == 1 ? 7 : i == 41 ? 7 : 1);
        }
        x.line(2, NONE, 9);
        due(44, "not SET", x.index(7, 0, 0), NONE);
        x.strike(2);
        x.set(0);
        due(44, "first", x.index(7, 0, 0), 1);
        due(44, "second", x.index(7, 0, 1), 2);
        due(44, "third", x.index(7, 0, 2), 3);
        due(44, "no more", x.index(7, 0, 3), NONE);
        due(44, "below", x.index(7, 0, -1), NONE);
        due(44, "another", x.index(30, 0, 0), 1);
        due(44, "another", x.index(30, 0, 1), NONE);
        due(44, "another", x.index(1, 0, 0), 2);
        due(44, "not of STRUCK ones", x.index(9, 0, 0), NONE);
        due(44, "no term", x.index(31, 0, 0), NONE);
        due(44, "no term", x.index(-1, 0, 0), NONE);
        due(44, "no volume", x.index(7, 6, 0), NONE);
        due(44, "not SET", x.index(7, 1, 0), NONE);
    }

    private static void thieves() {
        BookOfAll x = new BookOfAll();
        writer(x, 4);
        article(x, "b", 3);
        article(x, "a", 3);
        article(x, "c", 1);
        for (int i = 0; i < 3; i++) {
            x.give(i, 0);
        }
        for (int i = 0; i < 6; i++) {
            x.tell(i, 10 * i, 0);
        }
        x.line(0, 1, 0);
        x.line(1, 2, 0);
        x.line(0, 3, 0);
        x.line(1, NONE, 0);
        x.line(0, 1, 0);
        x.line(1, 101, 0);
        x.line(2, 5, 0);
        due(47, "not SET", x.thief(0, 0), NONE);
        x.strike(2);
        x.set(0);
        // as laid: 20; 10 30 10
        due(47, "an empty row", x.thief(0, 0), 4);
        due(47, "shares nothing", x.thief(0, 1), 0);
        due(45, "first", x.steal(20), 1);
        due(45, "number", x.steal(1000), NONE);
        due(45, "number", x.steal(-1), NONE);
        due(47, "three put in", x.thief(0, 0), 3);
        due(45, "second", x.steal(30), 2);
        due(45, "third", x.steal(10), 3);
        due(47, "one put in", x.thief(0, 0), 1);
        due(47, "nothing is wrong", x.thief(0, 1), 0);
        x.tell(1, 11, 0);
        due(47, "one is wrong", x.thief(0, 1), 1);
        x.tell(2, 0, 0);
        due(47, "two are wrong", x.thief(0, 1), 2);
        x.steal(50);
        due(47, "one taken out", x.thief(0, 0), 2);
        due(47, "an empty volume: not SET", x.thief(1, 0), NONE);
        x.set(1);
        due(47, "an empty volume", x.thief(1, 0), 4);
        due(47, "others", x.thief(0, 2), NONE);
        due(47, "others", x.thief(0, -1), NONE);
        due(47, "no volume", x.thief(6, 0), NONE);
        due(46, "how many", x.forget(), 4);
        due(46, "empty", x.forget(), 0);
        due(47, "an empty row", x.thief(0, 0), 4);
        // made another (10 laid on 10) or taken out: of all ways the most shared
        x.steal(10);
        x.steal(30);
        due(47, "two put in", x.thief(0, 0), 2);
        due(47, "10 shared", x.thief(0, 1), 1);
        x.forget();
        x.steal(10);
        x.steal(10);
        x.steal(10);
        due(47, "made others", x.thief(0, 0), 2);
        due(47, "two shared", x.thief(0, 1), 2);
        x.erratum(0, 10, 20);
        due(47, "without errata", x.thief(0, 0), 2);
        due(47, "without errata", x.thief(0, 1), 2);
        x.forget();
        for (int i = 1; i <= 30; i++) {
            due(45, "more", x.steal(999), i);
        }
        due(45, "too many", x.steal(0), NONE);
        due(47, "all others", x.thief(0, 0), 30);
        due(46, "all", x.forget(), 30);
    }

    private static void howEntriesAre() {
        BookOfAll x = new BookOfAll();
        writer(x, 4);
        article(x, "a", 23002);
        pointer(x, "b", 0);
        plate(x, "c", 0, 1);
        int[] first = {0, 2, 3, 2, 0, NONE, 0, 0, 0, 0};
        int[] second = {1, NONE, NONE, NONE, 0, NONE, NONE, 0, NONE, 0};
        int[] third = {2, NONE, NONE, NONE, 0, NONE, NONE, 0, NONE, 0};
        for (int what = 0; what < 10; what++) {
            due(48, "article " + what, x.is(0, what), first[what]);
            due(48, "pointer " + what, x.is(1, what), second[what]);
            due(48, "plate " + what, x.is(2, what), third[what]);
        }
        due(48, "others", x.is(0, 10), NONE);
        due(48, "others", x.is(0, -1), NONE);
        due(48, "none such", x.is(3, 0), NONE);
        due(48, "none such", x.is(-1, 0), NONE);
        write(x, 0, 0);
        due(48, "lines", x.is(0, 4), 2);
        due(48, "hand", x.is(0, 5), 0);
        due(48, "DONE", x.is(0, 6), 1);
        x.strike(1);
        due(48, "STRUCK", x.is(1, 7), 1);
        x.later(2);
        due(48, "LATER", x.is(2, 7), 2);
        x.set(0);
        due(48, "SET", x.is(0, 9), 1);
        due(48, "SET, though STRUCK", x.is(1, 9), 1);
        due(48, "STRUCK still", x.is(1, 7), 1);
        due(48, "LATER still", x.is(2, 7), 2);
        due(48, "how a SET one is", x.is(0, 7), 0);
    }

    private static void counts() {
        BookOfAll x = new BookOfAll();
        writer(x, 4);
        writer(x, 6);
        article(x, "a", 2);
        article(x, "f", 1);
        forAll(x, "pay short skill*asked;");
        x.go(7);
        x.tell(0, 1, 0);
        x.give(0, 0);
        x.line(0, 0, 0);
        x.give(0, 1);
        x.line(0, 0, 0);
        x.set(0);
        x.erratum(0, 1, 2);
        x.feed(0, 0, 0, 0, 0);
        int[] all = {7, 2, 2, 2, 1, 1, 1, 20, 20};
        for (int what = 0; what < 9; what++) {
            due(49, "count " + what, x.count(what), all[what]);
        }
        due(49, "9", x.count(9), NONE);
        due(49, "-1", x.count(-1), NONE);
        due(49, "pay of 0", x.count(10), 8);
        due(49, "pay of 1", x.count(11), 12);
        due(49, "no hand", x.count(12), NONE);
        due(49, "22", x.count(22), NONE);
        due(49, "29", x.count(29), NONE);
        x.die(1);
        due(49, "lives", x.count(30), 1);
        due(49, "dead", x.count(31), 0);
        due(49, "pay of a dead one", x.count(11), 12);
        due(49, "no hand", x.count(32), NONE);
        due(49, "42", x.count(42), NONE);
    }

    private static void limits() {
        BookOfAll x = new BookOfAll();
        writer(x, 4);
        article(x, "a", 200);
        article(x, "b", 200);
        x.give(0, 0);
        x.give(1, 0);
        x.tell(0, 1, 0);
        x.line(0, 0, 0);
        for (int i = 1; i < 300; i++) {
            due(22, "line", x.line(i < 200 ? 0 : 1, 100 + i - 1, 0), i);
        }
        due(22, "too many", x.line(1, NONE, 0), NONE);
        due(27, "through 300", x.stale(299, 0), false);
        x.tell(0, 2, 0);
        due(27, "through 300", x.stale(299, 0), true);
        due(28, "all", x.stales(0), 200);
        x.strike(1);
        due(33, "200 lines", x.set(0), 5);
        due(32, "last", x.told(199, 5), 5);
    }
}
