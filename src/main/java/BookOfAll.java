import java.util.Arrays;

/**
 * A book of all things, as the document BookOfAll tells it. Words in capitals there
 * (ENTRY, HAND, SHEET ..) are the words used here.
 */
public final class BookOfAll {
    public static final int NONE = -1;

    private static final int LAST_DAY = 2000;
    private static final int LONGEST_GO = 300;
    private static final int VOLUME_COUNT = 6;
    private static final int SUPPLEMENT = 6;
    private static final int ENTRY_LIMIT = 60;
    private static final int HAND_LIMIT = 12;
    private static final int LINE_LIMIT = 300;
    private static final int SUBSCRIBER_COUNT = 10;
    private static final int TERM_COUNT = 31;
    private static final int LEANS_ON_LINE = 100;
    private static final int MOST_VALUE = 999;
    private static final int PAGE_LINES = 40;
    private static final int PLATE_LINES = 10;
    private static final int LONGEST_ARTICLE = 400;
    private static final int LONGEST_SHEET = 400;
    private static final int YEAR = 365;

    private int now;
    private int setBits;
    private final Reader reader;
    private final Rules rules;
    private final Order order;
    private final Volume[] volumes;
    private final Entry[] entries;
    private int entryCount;
    private final int[] row;
    private int rowSize;
    private final Hand[] hands;
    private int handCount;
    private final Line[] lines;
    private int lineCount;
    private final News news;
    private final int[] firstVolume;
    private final int[] price;
    private final Lengths fitting;
    private final Giver giver;
    private final Thief robber;

    public BookOfAll() {
        reader = new Reader();
        rules = new Rules();
        order = new Order(rules);
        volumes = new Volume[VOLUME_COUNT];
        for (int v = 0; v < VOLUME_COUNT; v++) {
            volumes[v] = new Volume(v);
        }
        entries = new Entry[ENTRY_LIMIT];
        row = new int[ENTRY_LIMIT];
        hands = new Hand[HAND_LIMIT];
        lines = new Line[LINE_LIMIT];
        news = new News();
        firstVolume = new int[SUBSCRIBER_COUNT];
        price = new int[SUBSCRIBER_COUNT];
        Arrays.fill(firstVolume, NONE);
        fitting = new Lengths();
        giver = new Giver();
        robber = new Thief();
    }

    // ---- texts and rules

    public int feed(int a, int b, int c, int d, int e) {
        if (reader.size + 20 > Reader.TEXT_LIMIT) {
            return NONE;
        }
        reader.append(a);
        reader.append(b);
        reader.append(c);
        reader.append(d);
        reader.append(e);
        return reader.size;
    }

    public boolean end(int n) {
        if (n < 0 || n > reader.size) {
            return false;
        }
        reader.size = n;
        return true;
    }

    public int fault() {
        return reader.parse();
    }

    public int sheet() {
        if (!rules.hasRoomForSheet() || reader.parse() != NONE) {
            return NONE;
        }
        int number = rules.keep(reader.compiled());
        reader.size = 0;
        return number;
    }

    public int force(int sheet, int volume) {
        boolean forAll = volume == NONE;
        if (!forAll && (!isVolume(volume) || isSet(volume))) {
            return NONE;
        }
        int puts = rules.put(sheet, volume, now);
        if (puts != NONE && forAll) {
            sortIntoVolumes();
        }
        return puts;
    }

    public int rule(int clause, int volume, int day) {
        int sort = Sheet.sortOf(clause);
        if (sort == NONE || !isVolume(volume) || day < 0 || day > now) {
            return NONE;
        }
        return rules.inForce(sort, volume, day);
    }

    public int go(int n) {
        if (n < 0 || n > LONGEST_GO) {
            return NONE;
        }
        now = Math.min(LAST_DAY, now + n);
        return now;
    }

    public boolean bound(int volume, int letter) {
        if (volume < 0 || volume >= VOLUME_COUNT - 1 || letter < 0 || letter >= 26 || setBits != 0) {
            return false;
        }
        Volume told = volumes[volume];
        if (told == null || letter < lastLetter(volume - 1) || letter > lastLetter(volume + 1)) {
            return false;
        }
        told.lastLetter = letter;
        sortIntoVolumes();
        return true;
    }

    private int lastLetter(int volume) {
        Volume v = volumeAt(volume);
        return v == null ? 0 : v.lastLetter;
    }

    private boolean isVolume(int volume) {
        return volume >= 0 && volume < VOLUME_COUNT;
    }

    private Volume volumeAt(int volume) {
        return isVolume(volume) ? volumes[volume] : null;
    }

    private boolean isSet(int volume) {
        return volume >= 0 && (setBits >> volume & 1) != 0;
    }

    private Volume setVolumeAt(int volume) {
        Volume v = volumeAt(volume);
        return v != null && v.setDay != NONE ? v : null;
    }

    // ---- entries

    public int article(int a, int b, int c, int what) {
        int k = what / 10000;
        int field = what / 1000 % 10;
        int asked = what % 1000;
        if (what < 0 || k > 2 || field > 7 || asked < 1 || asked > 200) {
            return NONE;
        }
        Entry e = newEntry(Entry.ARTICLE, a, b, c);
        if (e == null) {
            return NONE;
        }
        e.k = k;
        e.field = field;
        e.asked = asked;
        return e.number;
    }

    public int pointer(int a, int b, int c, int to) {
        if (entryAt(to) == null) {
            return NONE;
        }
        Entry e = newEntry(Entry.POINTER, a, b, c);
        if (e == null) {
            return NONE;
        }
        e.to = to;
        return e.number;
    }

    public int plate(int a, int b, int c, int of, int many) {
        if (!areEntries(of, many)) {
            return NONE;
        }
        Entry e = newEntry(Entry.PLATE, a, b, c);
        return e == null ? NONE : e.number;
    }

    // What a PLATE shows is never asked for again, so it is only looked at.
    private boolean areEntries(int of, int many) {
        if (of < 0 || many < 1 || many > 4) {
            return false;
        }
        long seen = 0;
        int left = of;
        for (int i = 0; i < many; i++) {
            int number = left % 100;
            if (entryAt(number) == null || (seen >> number & 1) != 0) {
                return false;
            }
            seen |= 1L << number;
            left /= 100;
        }
        return left == 0;
    }

    private Entry newEntry(int kind, int a, int b, int c) {
        int size = Entry.headingSize(a, b, c);
        if (size == NONE || entryCount >= ENTRY_LIMIT) {
            return null;
        }
        Entry e = new Entry(entryCount, kind, size);
        e.readHeading(a, b, c);
        entries[entryCount] = e;
        entryCount++;
        order.take(NONE, now);
        e.keyVolume = volumeByKey(e);
        return e;
    }

    private void sortIntoVolumes() {
        order.take(NONE, now);
        for (int i = 0; i < entryCount; i++) {
            Entry e = entryAt(i);
            if (e != null) {
                e.keyVolume = volumeByKey(e);
            }
        }
    }

    private int volumeByKey(Entry e) {
        order.prepare(e);
        int mark = e.byteAt(e.keyStart);
        int last = VOLUME_COUNT - 1;
        if (Entry.isDigit(mark)) {
            return order.numbersFirst ? 0 : last;
        }
        for (int v = 0; v < last; v++) {
            if (mark - 'a' <= lastLetter(v)) {
                return v;
            }
        }
        return last;
    }

    private Entry entryAt(int n) {
        return n >= 0 && n < entryCount && n < ENTRY_LIMIT ? entries[n] : null;
    }

    private Entry entryOfKind(int n, int kind) {
        Entry e = entryAt(n);
        return e != null && e.kind == kind ? e : null;
    }

    public boolean points(int pointer, int to) {
        Entry e = entryOfKind(pointer, Entry.POINTER);
        if (e == null || e.setWith != NONE || entryAt(to) == null) {
            return false;
        }
        e.to = to;
        return true;
    }

    public boolean strike(int entry) {
        return sendAway(entry, Entry.STRUCK);
    }

    public boolean later(int entry) {
        return sendAway(entry, Entry.LATER);
    }

    private boolean sendAway(int entry, int how) {
        Entry e = entryAt(entry);
        if (e == null || e.how != 0 || isLater(e) || e.setWith != NONE) {
            return false;
        }
        e.how = how;
        return true;
    }

    private boolean isLater(Entry e) {
        return e.setWith == NONE && (e.how == Entry.LATER || isSet(e.keyVolume));
    }

    private boolean isStruck(Entry e) {
        return e.how == Entry.STRUCK;
    }

    private int standing(Entry e) {
        if (e.setWith != NONE) {
            return e.setWith;
        }
        return isLater(e) ? SUPPLEMENT : e.keyVolume;
    }

    public int volume(int entry) {
        Entry e = entryAt(entry);
        return e == null ? NONE : standing(e);
    }

    public int at(int volume, int k) {
        Volume v = volumeAt(volume);
        if (v == null || k < 0) {
            return NONE;
        }
        if (v.setDay != NONE) {
            return k < v.order.length ? v.order[k] : NONE;
        }
        arrange(volume);
        return k < rowSize && k < row.length ? row[k] : NONE;
    }

    private void arrange(int volume) {
        rowSize = 0;
        order.take(volume, now);
        for (int i = 0; i < entryCount; i++) {
            Entry e = entryAt(i);
            if (e != null && e.setWith == NONE && standing(e) == volume) {
                order.prepare(e);
                insertIntoRow(e);
            }
        }
    }

    private void insertIntoRow(Entry e) {
        if (rowSize < 0 || rowSize >= row.length) {
            return;
        }
        int low = 0;
        int high = rowSize;
        for (int step = 0; step < ENTRY_LIMIT && low < high; step++) {
            int middle = (low + high) >>> 1;
            Entry other = entryAt(row[middle]);
            if (other != null && order.isAhead(e, other)) {
                high = middle;
            } else {
                low = middle + 1;
            }
        }
        System.arraycopy(row, low, row, low + 1, rowSize - low);
        row[low] = e.number;
        rowSize++;
    }

    private Entry inRow(int k) {
        return k >= 0 && k < rowSize && k < row.length ? entryAt(row[k]) : null;
    }

    public int why(int a, int b) {
        Entry x = entryAt(a);
        Entry y = entryAt(b);
        if (x == null || y == null || a == b) {
            return NONE;
        }
        order.take(NONE, now);
        order.prepare(x);
        order.prepare(y);
        if (order.compareKeys(x, y) == 0) {
            return 4;
        }
        boolean ahead = order.isAhead(x, y);
        for (int reason = 1; reason <= 3; reason++) {
            order.take(NONE, now);
            order.turn(reason);
            order.prepare(x);
            order.prepare(y);
            if (order.isAhead(x, y) != ahead) {
                return reason;
            }
        }
        return 0;
    }

    // ---- hands and what they write

    public int hand(int fields, int skill, int born) {
        boolean can = fields >= 1 && fields <= 255 && skill >= 1 && skill <= 20 && born >= -40000 && born <= 0;
        if (!can || handCount >= HAND_LIMIT) {
            return NONE;
        }
        hands[handCount] = new Hand(fields, skill, born);
        handCount++;
        return handCount - 1;
    }

    private Hand handAt(int n) {
        return n >= 0 && n < handCount && n < HAND_LIMIT ? hands[n] : null;
    }

    private Hand livingHandAt(int n) {
        Hand h = handAt(n);
        return h != null && h.lives ? h : null;
    }

    public boolean enemies(int a, int b) {
        Hand x = handAt(a);
        Hand y = handAt(b);
        if (x == null || y == null || a == b || (x.enemies >> b & 1) != 0) {
            return false;
        }
        x.enemies |= 1 << b;
        y.enemies |= 1 << a;
        return true;
    }

    public boolean give(int article, int hand) {
        Entry e = entryOfKind(article, Entry.ARTICLE);
        if (e == null || e.isDone() || !mayTake(e, hand)) {
            return false;
        }
        e.hand = hand;
        return true;
    }

    private boolean mayTake(Entry e, int hand) {
        Hand h = livingHandAt(hand);
        if (h == null || isStruck(e) || e.setWith != NONE) {
            return false;
        }
        if ((h.fields >> e.field & 1) == 0 || (h.enemies & e.writers) != 0) {
            return false;
        }
        return valueFor(Sheet.WRITE, e, hand) != 0;
    }

    // The SUPPLEMENT is no VOLUME for which a SHEET could be put in force.
    private int valueFor(int sort, Entry e, int hand) {
        int volume = standing(e);
        ask(e, volume, hand);
        return rules.valueOf(sort, volume == SUPPLEMENT ? NONE : volume, now);
    }

    private void ask(Entry e, int volume, int hand) {
        Hand h = handAt(hand);
        rules.name(Rules.ASKED, e.asked);
        rules.name(Rules.LINES, e.lineCount);
        rules.name(Rules.FACTS, Long.bitCount(e.facts));
        rules.name(Rules.POINTS, pointersTo(e.number));
        rules.name(Rules.FIELD, e.field);
        rules.name(Rules.SKILL, h == null ? 0 : h.skill);
        rules.name(Rules.AGE, h == null ? 0 : (now - h.born) / YEAR);
        rules.name(Rules.VOLUME, volume);
        rules.name(Rules.LATE, h == null ? 0 : unfinished(hand));
    }

    private int pointersTo(int entry) {
        int many = 0;
        for (int i = 0; i < entryCount; i++) {
            Entry e = entryAt(i);
            if (e != null && e.kind == Entry.POINTER && e.to == entry && !isStruck(e)) {
                many++;
            }
        }
        return many;
    }

    private int unfinished(int hand) {
        int many = 0;
        for (int i = 0; i < entryCount; i++) {
            Entry e = entryAt(i);
            if (e != null && e.isUnfinishedOf(hand)) {
                many++;
            }
        }
        return many;
    }

    public int line(int article, int leans, int term) {
        Entry e = entryOfKind(article, Entry.ARTICLE);
        if (e == null || e.isDone() || isStruck(e) || isLater(e)) {
            return NONE;
        }
        Hand h = livingHandAt(e.hand);
        if (h == null || term < 0 || term >= TERM_COUNT || lineCount >= LINE_LIMIT || !canLean(leans)) {
            return NONE;
        }
        Line l = new Line(article, e.hand, term);
        lean(l, leans);
        l.pay = Math.max(0, valueFor(Sheet.PAY + e.k, e, e.hand));
        if (l.fact != NONE) {
            e.facts |= 1L << l.fact;
        }
        e.writers |= 1 << e.hand;
        e.lineCount++;
        h.pay += l.pay;
        lines[lineCount] = l;
        lineCount++;
        return lineCount - 1;
    }

    private boolean canLean(int leans) {
        return leans == NONE || news.valueOn(leans, now) != NONE || lineAt(leans - LEANS_ON_LINE) != null;
    }

    private void lean(Line l, int leans) {
        Line ground = lineAt(leans - LEANS_ON_LINE);
        if (leans == NONE) {
            l.root = NONE;
        } else if (ground == null) {
            l.fact = leans;
            l.keeps = news.valueOn(leans, now);
            l.root = lineCount;
        } else {
            l.leansOn = leans - LEANS_ON_LINE;
            l.root = ground.root;
        }
    }

    private Line lineAt(int n) {
        return n >= 0 && n < lineCount && n < LINE_LIMIT ? lines[n] : null;
    }

    public int die(int hand) {
        Hand h = livingHandAt(hand);
        if (h == null) {
            return NONE;
        }
        h.lives = false;
        return unfinished(hand);
    }

    private boolean hangs(Entry e) {
        Hand h = handAt(e.hand);
        return h != null && !h.lives && e.isUnfinishedOf(e.hand);
    }

    public int takers(int article) {
        Entry e = entryAt(article);
        if (e == null || !hangs(e)) {
            return NONE;
        }
        int bits = 0;
        for (int h = 0; h < handCount; h++) {
            if (mayTake(e, h)) {
                bits |= 1 << h;
            }
        }
        return bits;
    }

    // ---- facts, stale lines, errata

    public boolean tell(int fact, int value, int source) {
        boolean can = fact >= 0 && fact < News.FACT_COUNT && value >= 0 && value <= MOST_VALUE && source >= 0;
        return can && news.addFact(fact, value, source, now);
    }

    public int known(int fact, int day, int what) {
        if (day < 0 || day > LAST_DAY) {
            return NONE;
        }
        if (what == 0) {
            return news.valueOn(fact, day);
        }
        return what == 1 ? news.sourceOn(fact, day) : NONE;
    }

    public boolean stale(int line, int day) {
        Line l = lineAt(line);
        return l != null && day >= 0 && day <= LAST_DAY && isStale(l, day);
    }

    // A chain of LINES is as stale as the one at its root, which alone keeps something.
    private boolean isStale(Line l, int day) {
        Line root = lineAt(l.root);
        if (root == null) {
            return false;
        }
        return news.valueOn(root.fact, day) != news.keptOn(l.root, root.keeps, day);
    }

    public int stales(int entry) {
        if (entryAt(entry) == null) {
            return NONE;
        }
        int many = 0;
        for (int i = 0; i < lineCount; i++) {
            Line l = lineAt(i);
            if (l != null && l.entry == entry && isStale(l, now)) {
                many++;
            }
        }
        return many;
    }

    private boolean isSetLine(Line l) {
        Entry e = entryAt(l.entry);
        return e != null && e.setWith != NONE;
    }

    public int mend(int line) {
        Line l = lineAt(line);
        if (l == null || l.fact == NONE || isSetLine(l)) {
            return NONE;
        }
        l.keeps = news.valueOn(l.fact, now);
        return l.keeps;
    }

    public int erratum(int line, int is, int should) {
        Line l = lineAt(line);
        if (l == null || l.fact == NONE || !isSetLine(l)) {
            return NONE;
        }
        if (is < 0 || is > MOST_VALUE || should < 0 || should > MOST_VALUE) {
            return NONE;
        }
        boolean meets = news.keptOn(line, l.keeps, now) == is;
        return news.addErratum(line, is, should, now, !meets);
    }

    public int misses(int erratum) {
        return news.missedBy(erratum);
    }

    public int told(int line, int what) {
        Line l = lineAt(line);
        if (l == null) {
            return NONE;
        }
        switch (what) {
            case 0:
                return l.keeps;
            case 1:
                return l.fact == NONE ? NONE : news.keptOn(line, l.keeps, now);
            case 2:
                return l.fact;
            case 3:
                return l.leansOn;
            case 4:
                return l.entry;
            case 5:
                return pageOf(l.place);
            case 6:
                return l.pay;
            case 7:
                return l.hand;
            default:
                return NONE;
        }
    }

    // ---- setting a volume

    public int set(int volume) {
        Volume v = volumeAt(volume);
        if (v == null || v.setDay != NONE) {
            return NONE;
        }
        arrange(volume);
        if (!rowMayBeSet()) {
            return NONE;
        }
        lay(v, volume);
        return (v.lines + PAGE_LINES - 1) / PAGE_LINES;
    }

    private boolean rowMayBeSet() {
        for (int k = 0; k < rowSize; k++) {
            Entry e = inRow(k);
            if (e == null || e.kind != Entry.ARTICLE || isStruck(e)) {
                continue;
            }
            if (!e.isDone() || valueFor(Sheet.MUST, e, e.hand) == 0) {
                return false;
            }
        }
        return true;
    }

    private void lay(Volume v, int volume) {
        v.laid = new int[linesInRow()];
        v.order = Arrays.copyOf(row, Math.max(0, rowSize));
        v.setDay = now;
        setBits |= 1 << volume;
        for (int k = 0; k < rowSize; k++) {
            Entry e = inRow(k);
            if (e == null) {
                continue;
            }
            e.setWith = volume;
            if (isStruck(e)) {
                v.struck++;
            } else {
                e.begins = v.lines;
                layLines(v, e);
                v.lines += takenLines(e);
            }
        }
    }

    private int linesInRow() {
        int many = 0;
        for (int k = 0; k < rowSize; k++) {
            Entry e = inRow(k);
            if (e != null && !isStruck(e)) {
                many += e.lineCount;
            }
        }
        return many;
    }

    private void layLines(Volume v, Entry e) {
        int place = e.begins;
        for (int i = 0; i < lineCount; i++) {
            Line l = lineAt(i);
            if (l != null && l.entry == e.number) {
                l.place = place;
                place++;
                v.addLaid(i);
            }
        }
    }

    private int takenLines(Entry e) {
        if (e.kind == Entry.ARTICLE) {
            return e.lineCount;
        }
        return e.kind == Entry.POINTER ? 1 : PLATE_LINES;
    }

    private int pageOf(int place) {
        return place == NONE ? NONE : place / PAGE_LINES + 1;
    }

    public int page(int entry) {
        Entry e = entryAt(entry);
        return e == null ? NONE : pageOf(e.begins);
    }

    // ---- what pointers promise

    public int promise(int pointer) {
        Entry e = entryOfKind(pointer, Entry.POINTER);
        if (e == null || isAway(e)) {
            return NONE;
        }
        Entry last = endOf(e);
        if (last == null) {
            return 3;
        }
        if (isAway(last) || isBrokenOnTheWay(e)) {
            return 2;
        }
        return last.setWith != NONE ? 0 : 1;
    }

    private boolean isAway(Entry e) {
        return isStruck(e) || isLater(e);
    }

    // Null in a RING: no way through all ENTRIES is longer than their number.
    private Entry endOf(Entry pointer) {
        Entry e = pointer;
        for (int i = 0; i <= entryCount && e != null; i++) {
            if (e.kind != Entry.POINTER) {
                return e;
            }
            e = entryAt(e.to);
        }
        return null;
    }

    private boolean isBrokenOnTheWay(Entry pointer) {
        Entry e = pointer;
        for (int i = 0; i <= entryCount && e != null && e.kind == Entry.POINTER; i++) {
            if (isAway(e)) {
                return true;
            }
            e = entryAt(e.to);
        }
        return false;
    }

    public int ends(int pointer) {
        Entry e = entryOfKind(pointer, Entry.POINTER);
        Entry last = e == null ? null : endOf(e);
        return last == null ? NONE : last.number;
    }

    public int promised(int hand) {
        if (handAt(hand) == null) {
            return NONE;
        }
        int many = 0;
        for (int i = 0; i < entryCount; i++) {
            Entry e = entryOfKind(i, Entry.POINTER);
            if (e == null || isStruck(e)) {
                continue;
            }
            Entry last = endOf(e);
            if (last != null && last.hand == hand && hangs(last)) {
                many++;
            }
        }
        return many;
    }

    // ---- subscribers

    public boolean subscribe(int who, int volume, int price) {
        if (!isSubscriber(who) || !isVolume(volume) || price < 1 || price > MOST_VALUE || firstVolume[who] != NONE) {
            return false;
        }
        firstVolume[who] = volume;
        this.price[who] = price;
        return true;
    }

    private boolean isSubscriber(int who) {
        return who >= 0 && who < SUBSCRIBER_COUNT;
    }

    public int owed(int who, int volume) {
        Volume v = setVolumeAt(volume);
        if (v == null || !isSubscriber(who) || firstVolume[who] == NONE || volume < firstVolume[who]) {
            return NONE;
        }
        rules.forgetNames();
        rules.name(Rules.LATE, v.struck);
        rules.name(Rules.LINES, v.lines);
        rules.name(Rules.VOLUME, volume);
        int owe = rules.valueOf(Sheet.OWE, volume, v.setDay);
        return Math.max(0, Math.min(price[who], owe));
    }

    // ---- lengths

    public int lengths(int volume, int s) {
        return fit(volume, s) ? fitting.differences() : NONE;
    }

    public int length(int article, int s) {
        Entry e = entryOfKind(article, Entry.ARTICLE);
        if (e == null || isAway(e) || !fit(standing(e), s)) {
            return NONE;
        }
        return fitting.fittedOf(article);
    }

    private boolean fit(int volume, int s) {
        if (!isVolume(volume) || isSet(volume) || s < 1 || s > LONGEST_SHEET) {
            return false;
        }
        arrange(volume);
        fitting.begin();
        for (int k = 0; k < rowSize; k++) {
            Entry e = inRow(k);
            if (e != null && !isStruck(e)) {
                addToFitting(e);
            }
        }
        return fitting.fitTo(s);
    }

    private void addToFitting(Entry e) {
        if (e.kind != Entry.ARTICLE) {
            fitting.fixed += takenLines(e);
            return;
        }
        int least = lengthWithin(valueFor(Sheet.LEAST + e.k, e, e.hand));
        int most = lengthWithin(valueFor(Sheet.MOST + e.k, e, e.hand));
        fitting.add(e.number, e.asked, Math.min(least, most), most);
    }

    private int lengthWithin(int length) {
        return Math.max(1, Math.min(LONGEST_ARTICLE, length));
    }

    // ---- giving

    public int giving(int articles, int hands, int days) {
        return canGive(articles, hands, days) && addHands(hands, days) && addArticles(articles) ? giver.choose() : NONE;
    }

    // It asks as giving() does, but not through it: calls stand one less deep.
    public int given(int articles, int hands, int days, int article) {
        boolean can = canGive(articles, hands, days) && addHands(hands, days) && addArticles(articles);
        return can && giver.choose() > 0 ? giver.handOf(article) : NONE;
    }

    private boolean canGive(int articles, int hands, int days) {
        boolean bits = articles > 0 && articles < 1 << 30 && hands > 0 && hands < 1 << HAND_LIMIT;
        boolean few = Integer.bitCount(articles) <= Giver.MOST_ARTICLES && Integer.bitCount(hands) <= Giver.MOST_HANDS;
        return bits && few && days >= 1 && days <= 400;
    }

    private boolean addHands(int bits, int days) {
        giver.begin();
        for (int n = 0; n < HAND_LIMIT; n++) {
            if ((bits >> n & 1) == 0) {
                continue;
            }
            Hand h = livingHandAt(n);
            if (h == null) {
                return false;
            }
            giver.addHand(n, h.skill * days);
        }
        return true;
    }

    private boolean addArticles(int bits) {
        for (int n = 0; n < 30; n++) {
            if ((bits >> n & 1) == 0) {
                continue;
            }
            Entry e = entryOfKind(n, Entry.ARTICLE);
            if (e == null || e.isDone() || isStruck(e) || e.setWith != NONE || livingHandAt(e.hand) != null) {
                return false;
            }
            giver.addArticle(n, e.asked - e.lineCount);
            for (int h = 0; h < giver.handCount; h++) {
                if (mayTake(e, giver.handNumber(h))) {
                    giver.allow(h);
                }
            }
        }
        return true;
    }

    // ---- index and thief

    public int index(int term, int volume, int k) {
        Volume v = setVolumeAt(volume);
        if (v == null || k < 0) {
            return NONE;
        }
        int last = NONE;
        int seen = 0;
        for (int i = 0; i < v.laidCount; i++) {
            Line l = lineAt(v.laidAt(i));
            if (l == null || l.term != term || pageOf(l.place) == last) {
                continue;
            }
            last = pageOf(l.place);
            if (seen == k) {
                return last;
            }
            seen++;
        }
        return NONE;
    }

    public int steal(int number) {
        return number < 0 || number > MOST_VALUE ? NONE : robber.add(number);
    }

    public int forget() {
        int many = robber.size;
        robber.size = 0;
        return many;
    }

    public int thief(int volume, int what) {
        Volume v = setVolumeAt(volume);
        if (v == null || what < 0 || what > 1) {
            return NONE;
        }
        robber.begin();
        for (int i = 0; i < v.laidCount; i++) {
            Line l = lineAt(v.laidAt(i));
            if (l != null && l.fact != NONE) {
                robber.meet(l.keeps, news.valueOn(l.fact, now) != l.keeps);
            }
        }
        return what == 0 ? robber.changes() : robber.shared();
    }

    // ---- how things are

    public int is(int entry, int what) {
        Entry e = entryAt(entry);
        if (e == null) {
            return NONE;
        }
        switch (what) {
            case 0:
                return e.kind;
            case 4:
                return e.lineCount;
            case 7:
                return isStruck(e) ? Entry.STRUCK : isLater(e) ? Entry.LATER : 0;
            case 9:
                return e.setWith != NONE || isSet(e.keyVolume) ? 1 : 0;
            default:
                return e.kind == Entry.ARTICLE ? ofArticle(e, what) : NONE;
        }
    }

    private int ofArticle(Entry e, int what) {
        switch (what) {
            case 1:
                return e.k;
            case 2:
                return e.field;
            case 3:
                return e.asked;
            case 5:
                return e.hand;
            case 6:
                return e.isDone() ? 1 : 0;
            case 8:
                return hangs(e) ? 1 : 0;
            default:
                return NONE;
        }
    }

    public int count(int what) {
        switch (what) {
            case 0:
                return now;
            case 1:
                return entryCount;
            case 2:
                return handCount;
            case 3:
                return lineCount;
            case 4:
                return rules.sheetCount;
            case 5:
                return news.errata;
            case 6:
                return setBits;
            case 7:
                return reader.size;
            case 8:
                return payOfAll();
            default:
                return countOfHand(what);
        }
    }

    private int payOfAll() {
        int sum = 0;
        for (int i = 0; i < handCount; i++) {
            Hand h = handAt(i);
            sum += h == null ? 0 : h.pay;
        }
        return sum;
    }

    private int countOfHand(int what) {
        boolean pay = what >= 10 && what < 10 + HAND_LIMIT;
        boolean life = what >= 30 && what < 30 + HAND_LIMIT;
        if (!pay && !life) {
            return NONE;
        }
        Hand h = handAt(pay ? what - 10 : what - 30);
        if (h == null) {
            return NONE;
        }
        return pay ? h.pay : h.lives ? 1 : 0;
    }

    /** The TEXT, and how it is read: a FAULT is found, and code made for a SHEET, in one pass. */
    private static final class Reader {
        static final int TEXT_LIMIT = 600;
        static final int MOST_NUMBER = 99999;
        static final int MOST_DEPTH = 8;
        static final int LONGEST_WORD = 8;
        // Kinds of TOKENS; a sign's kind is its byte.
        static final int END = 0;
        static final int WORD = 1;
        static final int NUMBER = 2;
        static final int BAD = 3;
        // Words by their places here. Those from numbers to owe stand as their sorts of CLAUSE do.
        static final String WORDS = "skip numbers blanks write must owe least most pay short plain long asked lines facts points field skill age volume late last first pass count or and not";
        static final int SKIP = 0;
        static final int NUMBERS = 1;
        static final int OWE = 5;
        static final int LEAST = 6;
        static final int PAY = 8;
        static final int SHORT = 9;
        static final int LONG = 11;
        static final int ASKED = 12;
        static final int LATE = 20;
        static final int LAST = 21;
        static final int PASS = 23;
        static final int OR = 25;
        static final int AND = 26;
        static final int NOT = 27;

        final byte[] bytes = new byte[TEXT_LIMIT];
        int size;
        final int[] kinds = new int[TEXT_LIMIT + 1];
        final int[] starts = new int[TEXT_LIMIT + 1];
        final int[] stops = new int[TEXT_LIMIT + 1];
        final int[] values = new int[TEXT_LIMIT + 1];
        int tokens;
        int next;
        int fault;
        final int[] code = new int[TEXT_LIMIT];
        int codeSize;
        final int[] from = new int[Sheet.SORTS];
        final int[] to = new int[Sheet.SORTS];
        final long[] words = new long[Sheet.MOST_WORDS];
        int wordCount;

        void append(int four) {
            for (int shift = 24; shift >= 0; shift -= 8) {
                if (size >= 0 && size < TEXT_LIMIT) {
                    bytes[size] = (byte) (four >>> shift);
                    size++;
                }
            }
        }

        int parse() {
            scan();
            fault = NONE;
            next = 0;
            codeSize = 0;
            wordCount = 0;
            Arrays.fill(from, NONE);
            for (int i = 0; i <= size && fault == NONE && kind() != END; i++) {
                readClause();
            }
            return fault;
        }

        Sheet compiled() {
            Sheet made = new Sheet();
            made.code = Arrays.copyOf(code, Math.max(0, codeSize));
            made.from = from.clone();
            made.to = to.clone();
            made.words = Arrays.copyOf(words, Math.max(0, wordCount));
            return made;
        }

        private int byteAt(int place) {
            return place >= 0 && place < size && place < TEXT_LIMIT ? bytes[place] & 255 : 0;
        }

        private static boolean isLetter(int mark) {
            return mark >= 'a' && mark <= 'z';
        }

        private static boolean isSign(int mark) {
            return mark > 0 && "+-*/()[],<>=;".indexOf((char) mark) >= 0;
        }

        /** Parts the TEXT into TOKENS; END is the last, or a byte that begins none. */
        private void scan() {
            tokens = 0;
            int place = 0;
            int last = WORD;
            for (int i = 0; i <= size && last != END && last != BAD; i++) {
                while (place < size && (byteAt(place) == ' ' || byteAt(place) == 10)) {
                    place++;
                }
                last = kindAt(place);
                int stop = stopAt(place, last);
                addToken(last, place, stop);
                place = stop;
            }
        }

        private int kindAt(int place) {
            int first = byteAt(place);
            if (place >= size) {
                return END;
            }
            if (isLetter(first)) {
                return WORD;
            }
            if (Entry.isDigit(first)) {
                return NUMBER;
            }
            return isSign(first) ? first : BAD;
        }

        private int stopAt(int place, int kind) {
            int stop = place + 1;
            while (stop < size && kind == WORD && isLetter(byteAt(stop))) {
                stop++;
            }
            while (stop < size && kind == NUMBER && Entry.isDigit(byteAt(stop))) {
                stop++;
            }
            return stop;
        }

        private void addToken(int kind, int start, int stop) {
            if (tokens >= 0 && tokens < kinds.length) {
                kinds[tokens] = kind;
                starts[tokens] = start;
                stops[tokens] = stop;
                values[tokens] = kind == WORD ? wordAt(start, stop) : kind == NUMBER ? numberAt(start, stop) : NONE;
                tokens++;
            }
        }

        // A number too great stays too great, however many digits follow.
        private int numberAt(int start, int stop) {
            int number = 0;
            for (int i = start; i < stop && number <= MOST_NUMBER; i++) {
                number = number * 10 + byteAt(i) - '0';
            }
            return number;
        }

        private int wordAt(int start, int stop) {
            int index = 0;
            int begin = 0;
            for (int i = 0; i <= WORDS.length(); i++) {
                if (i == WORDS.length() || WORDS.charAt(i) == ' ') {
                    if (i - begin == stop - start && isWordAt(begin, i, start)) {
                        return index;
                    }
                    index++;
                    begin = i + 1;
                }
            }
            return NONE;
        }

        private boolean isWordAt(int begin, int end, int start) {
            for (int i = begin; i >= 0 && i < end && i < WORDS.length(); i++) {
                if (WORDS.charAt(i) != byteAt(start + i - begin)) {
                    return false;
                }
            }
            return true;
        }

        private int kind() {
            return next >= 0 && next < tokens && next < kinds.length ? kinds[next] : END;
        }

        /** The place of the TOKEN in WORDS; NONE for another word, and for what is no word. */
        private int word() {
            return kind() == WORD ? values[next] : NONE;
        }

        private void refuse() {
            if (fault == NONE) {
                fault = next >= 0 && next < tokens && next < starts.length ? starts[next] : size;
            }
        }

        private void advance() {
            if (fault == NONE) {
                next++;
            }
        }

        private void expect(int sign) {
            if (kind() != sign) {
                refuse();
            }
            advance();
        }

        private void emit(int op) {
            if (fault == NONE && codeSize >= 0 && codeSize < code.length) {
                code[codeSize] = op;
                codeSize++;
            }
        }

        private void readClause() {
            if (word() == SKIP) {
                advance();
                readSkip();
            } else {
                int sort = openSort();
                if (sort == Sheet.NUMBERS) {
                    readChoice(LAST);
                } else if (sort == Sheet.BLANKS) {
                    readChoice(PASS);
                } else if (sort == Sheet.WRITE || sort == Sheet.MUST) {
                    readEither(0);
                } else {
                    readSum(0);
                }
                closeSort(sort);
            }
            expect(';');
        }

        private void readSkip() {
            if (kind() != WORD || wordCount < 0 || wordCount >= Sheet.MOST_WORDS || stops[next] - starts[next] > LONGEST_WORD) {
                refuse();
                return;
            }
            long word = 0;
            for (int i = starts[next]; i < stops[next]; i++) {
                word = word << 8 | byteAt(i);
            }
            words[wordCount] = word;
            wordCount++;
            advance();
        }

        /** The TOKEN that tells the sort is the one at fault, if that sort was there. */
        private int openSort() {
            int word = word();
            int sort = NONE;
            if (word >= NUMBERS && word <= OWE) {
                sort = Sheet.NUMBERS + word - NUMBERS;
            } else if (word >= LEAST && word <= PAY) {
                advance();
                int k = word() - SHORT;
                sort = k >= 0 && k <= LONG - SHORT ? Sheet.LEAST + 3 * (word - LEAST) + k : NONE;
            }
            if (sort < 0 || sort >= Sheet.SORTS || from[sort] != NONE) {
                refuse();
                return NONE;
            }
            from[sort] = codeSize;
            advance();
            return sort;
        }

        private void closeSort(int sort) {
            if (sort >= 0 && sort < Sheet.SORTS) {
                to[sort] = codeSize;
            }
        }

        /** One of two words that stand side by side in WORDS: 0 for the first, 1 for the second. */
        private void readChoice(int first) {
            int choice = word() - first;
            if (choice == 0 || choice == 1) {
                emit(choice);
                advance();
            } else {
                refuse();
            }
        }

        private void readEither(int depth) {
            readBoth(depth);
            for (int i = 0; i < size && fault == NONE && word() == OR; i++) {
                advance();
                readBoth(depth);
                emit(Rules.OR);
            }
        }

        private void readBoth(int depth) {
            readBasic(depth);
            for (int i = 0; i < size && fault == NONE && word() == AND; i++) {
                advance();
                readBasic(depth);
                emit(Rules.AND);
            }
        }

        private void readBasic(int depth) {
            boolean not = word() == NOT;
            if (!not && kind() != '[') {
                readComparison(depth);
                return;
            }
            if (fault != NONE || depth >= MOST_DEPTH) {
                refuse();
                return;
            }
            advance();
            if (not) {
                readBasic(depth + 1);
                emit(Rules.NOT);
            } else {
                readEither(depth + 1);
                expect(']');
            }
        }

        private void readComparison(int depth) {
            readSum(depth);
            int sign = kind();
            if (sign != '<' && sign != '>' && sign != '=') {
                refuse();
                return;
            }
            advance();
            readSum(depth);
            emit(sign == '<' ? Rules.LESS : sign == '>' ? Rules.MORE : Rules.LIKE);
        }

        private void readSum(int depth) {
            readProduct(depth);
            for (int i = 0; i < size && fault == NONE && (kind() == '+' || kind() == '-'); i++) {
                int op = kind() == '+' ? Rules.ADD : Rules.SUBTRACT;
                advance();
                readProduct(depth);
                emit(op);
            }
        }

        private void readProduct(int depth) {
            readFactor(depth);
            for (int i = 0; i < size && fault == NONE && (kind() == '*' || kind() == '/'); i++) {
                int op = kind() == '*' ? Rules.MULTIPLY : Rules.DIVIDE;
                advance();
                readFactor(depth);
                emit(op);
            }
        }

        private void readFactor(int depth) {
            if (fault != NONE) {
                return;
            }
            int kind = kind();
            int name = word();
            if (name >= ASKED && name <= LATE) {
                emit(Rules.FIRST_NAME - (name - ASKED));
                advance();
            } else if (kind == NUMBER && values[next] <= MOST_NUMBER) {
                emit(values[next]);
                advance();
            } else if (kind == '(' && depth < MOST_DEPTH) {
                advance();
                readSum(depth + 1);
                expect(')');
            } else {
                refuse();
            }
        }
    }

    /** What came of a TEXT: its W, and code for each sort of CLAUSE that it has. */
    private static final class Sheet {
        static final int NUMBERS = 0;
        static final int BLANKS = 1;
        static final int WRITE = 2;
        static final int MUST = 3;
        static final int OWE = 4;
        static final int LEAST = 5;
        static final int MOST = 8;
        static final int PAY = 11;
        static final int SORTS = 14;
        static final int MOST_WORDS = 4;

        int[] code;
        int[] from;
        int[] to;
        long[] words;

        /** The sort of a CLAUSE by the number that rule() has for it. */
        static int sortOf(int clause) {
            if (clause >= 0 && clause <= OWE) {
                return clause;
            }
            int group = clause / 10;
            int k = clause % 10;
            return clause >= 10 && group <= 3 && k <= 2 ? LEAST + 3 * (group - 1) + k : NONE;
        }

        boolean has(int sort) {
            return sort >= 0 && sort < from.length && from[sort] != NONE;
        }

        boolean hasWord(long word) {
            for (int i = 0; i < words.length; i++) {
                if (words[i] == word) {
                    return true;
                }
            }
            return false;
        }
    }

    /** The SHEETS, which of them were put in force and when, and what their CLAUSES come to. */
    private static final class Rules {
        static final int SHEET_LIMIT = 12;
        static final int PUT_LIMIT = 20;
        static final int FARTHEST = 1000000;
        static final int STACK = 64;

        static final int ASKED = 0;
        static final int LINES = 1;
        static final int FACTS = 2;
        static final int POINTS = 3;
        static final int FIELD = 4;
        static final int SKILL = 5;
        static final int AGE = 6;
        static final int VOLUME = 7;
        static final int LATE = 8;
        static final int NAME_COUNT = 9;

        // Code: a number stands for itself, what is below 0 for a NAME or for what is done.
        static final int FIRST_NAME = -1;
        static final int ADD = -11;
        static final int SUBTRACT = -12;
        static final int MULTIPLY = -13;
        static final int DIVIDE = -14;
        static final int LESS = -15;
        static final int MORE = -16;
        static final int LIKE = -17;
        static final int AND = -18;
        static final int OR = -19;
        static final int NOT = -20;

        // Without a SHEET: numbers first, blanks count, write and must hold, owe; least, most, pay.
        private static final int[] WITHOUT = {1, 1, 1, 1, 0, 1, 1, 1, 400, 400, 400, 1, 1, 1};

        final Sheet[] sheets = new Sheet[SHEET_LIMIT];
        int sheetCount;
        final int[] putSheet = new int[PUT_LIMIT];
        final int[] putVolume = new int[PUT_LIMIT];
        final int[] putDay = new int[PUT_LIMIT];
        int puts;
        final int[] names = new int[NAME_COUNT];
        final int[] stack = new int[STACK];

        boolean hasRoomForSheet() {
            return sheetCount < SHEET_LIMIT;
        }

        int keep(Sheet made) {
            if (sheetCount < 0 || sheetCount >= SHEET_LIMIT) {
                return NONE;
            }
            sheets[sheetCount] = made;
            sheetCount++;
            return sheetCount - 1;
        }

        int put(int sheet, int volume, int day) {
            if (sheet < 0 || sheet >= sheetCount || puts < 0 || puts >= PUT_LIMIT) {
                return NONE;
            }
            putSheet[puts] = sheet;
            putVolume[puts] = volume;
            putDay[puts] = day;
            puts++;
            return puts;
        }

        /** The SHEET of a put that counts for a VOLUME (NONE: for all alone) on a DAY, else null. */
        private Sheet sheetOfPut(int i, int volume, int day) {
            if (i < 0 || i >= puts || i >= PUT_LIMIT || putDay[i] > day) {
                return null;
            }
            boolean counts = putVolume[i] == NONE || putVolume[i] == volume;
            int sheet = putSheet[i];
            return counts && sheet >= 0 && sheet < SHEET_LIMIT ? sheets[sheet] : null;
        }

        // DAYS only go on, so the last put is the latest.
        int inForce(int sort, int volume, int day) {
            for (int i = puts - 1; i >= 0; i--) {
                Sheet s = sheetOfPut(i, volume, day);
                if (s != null && s.has(sort)) {
                    return putSheet[i];
                }
            }
            return NONE;
        }

        boolean skips(long word, int volume, int day) {
            for (int i = 0; i < puts; i++) {
                Sheet s = sheetOfPut(i, volume, day);
                if (s != null && s.hasWord(word)) {
                    return true;
                }
            }
            return false;
        }

        void forgetNames() {
            Arrays.fill(names, 0);
        }

        void name(int which, int value) {
            if (which >= 0 && which < NAME_COUNT) {
                names[which] = value;
            }
        }

        /** What a sort of CLAUSE comes to for the names as they are; a condition that holds is 1. */
        int valueOf(int sort, int volume, int day) {
            if (sort < 0 || sort >= WITHOUT.length) {
                return 0;
            }
            int number = inForce(sort, volume, day);
            Sheet s = number >= 0 && number < SHEET_LIMIT ? sheets[number] : null;
            return s == null ? WITHOUT[sort] : run(s, sort);
        }

        // Each code leaves one number on the stack; what can't stand there (there is none) leaves 0.
        private int run(Sheet s, int sort) {
            if (!s.has(sort) || sort >= s.to.length) {
                return 0;
            }
            int top = 0;
            for (int i = s.from[sort]; i >= 0 && i < s.to[sort] && i < s.code.length; i++) {
                int op = s.code[i];
                int name = FIRST_NAME - op;
                if (op >= 0 && top < STACK) {
                    stack[top] = op;
                    top++;
                } else if (name >= 0 && name < NAME_COUNT && top < STACK) {
                    stack[top] = names[name];
                    top++;
                } else if (op == NOT && top > 0) {
                    stack[top - 1] = stack[top - 1] == 0 ? 1 : 0;
                } else if (top > 1) {
                    top--;
                    stack[top - 1] = combine(op, stack[top - 1], stack[top]);
                }
            }
            return stack[0];
        }

        private static int combine(int op, int left, int right) {
            long result = 0;
            switch (op) {
                case ADD:
                    result = (long) left + right;
                    break;
                case SUBTRACT:
                    result = (long) left - right;
                    break;
                case MULTIPLY:
                    result = (long) left * right;
                    break;
                case DIVIDE:
                    return right == 0 ? 0 : left / right;
                case LESS:
                    return left < right ? 1 : 0;
                case MORE:
                    return left > right ? 1 : 0;
                case LIKE:
                    return left == right ? 1 : 0;
                case AND:
                    return left != 0 && right != 0 ? 1 : 0;
                case OR:
                    return left != 0 || right != 0 ? 1 : 0;
                default:
                    return 0;
            }
            return (int) Math.max(-FARTHEST, Math.min(FARTHEST, result));
        }
    }

    /** How KEYS are made of HEADINGS and compared, by the rules taken last. */
    private static final class Order {
        final Rules rules;
        int volume;
        int day;
        boolean skips;
        boolean blanksCount;
        boolean numbersFirst;

        Order(Rules rules) {
            this.rules = rules;
        }

        void take(int volume, int day) {
            this.volume = volume;
            this.day = day;
            skips = true;
            blanksCount = rules.valueOf(Sheet.BLANKS, volume, day) != 0;
            numbersFirst = rules.valueOf(Sheet.NUMBERS, volume, day) != 0;
        }

        void turn(int reason) {
            if (reason == 1) {
                skips = false;
            } else if (reason == 2) {
                blanksCount = !blanksCount;
            } else {
                numbersFirst = !numbersFirst;
            }
        }

        // Whether the first WORD is skipped is dear to find, so it is found once for each ENTRY.
        void prepare(Entry e) {
            boolean left = skips && e.secondWord > 0 && rules.skips(e.firstWord, volume, day);
            e.keyStart = left ? e.secondWord : 0;
        }

        boolean isAhead(Entry a, Entry b) {
            int keys = compareKeys(a, b);
            return keys < 0 || keys == 0 && a.number < b.number;
        }

        int compareKeys(Entry a, Entry b) {
            int i = a.keyStart;
            int j = b.keyStart;
            for (int n = 0; n < Entry.HEADING_BYTES; n++) {
                i += !blanksCount && a.byteAt(i) == ' ' ? 1 : 0;
                j += !blanksCount && b.byteAt(j) == ' ' ? 1 : 0;
                int left = rank(a.byteAt(i));
                int right = rank(b.byteAt(j));
                if (left != right) {
                    return left < right ? -1 : 1;
                }
                i++;
                j++;
            }
            return 0;
        }

        private int rank(int mark) {
            if (mark == 0) {
                return -1;
            }
            if (mark == ' ') {
                return 0;
            }
            if (mark <= '9') {
                return (numbersFirst ? 1 : 100) + mark - '0';
            }
            return 50 + mark - 'a';
        }
    }

    /** An ENTRY: its HEADING, what it was made as, and how it stands. */
    private static final class Entry {
        static final int ARTICLE = 0;
        static final int POINTER = 1;
        static final int PLATE = 2;
        static final int STRUCK = 1;
        static final int LATER = 2;
        static final int HEADING_BYTES = 12;

        final int number;
        final int kind;
        final byte[] heading;
        long firstWord;
        int secondWord;
        int keyStart;
        int keyVolume;
        int k;
        int field;
        int asked;
        int to = NONE;
        int how;
        int setWith = NONE;
        int begins = NONE;
        int hand = NONE;
        int lineCount;
        long facts;
        int writers;

        Entry(int number, int kind, int size) {
            this.number = number;
            this.kind = kind;
            heading = new byte[Math.max(0, size)];
        }

        private static int byteOf(int a, int b, int c, int place) {
            int four = place < 4 ? a : place < 8 ? b : c;
            return four >>> (24 - 8 * (place & 3)) & 255;
        }

        static boolean isDigit(int mark) {
            return mark >= '0' && mark <= '9';
        }

        private static boolean isMark(int mark) {
            return mark >= 'a' && mark <= 'z' || isDigit(mark);
        }

        /** How many bytes the HEADING has; NONE if it is none. */
        static int headingSize(int a, int b, int c) {
            int size = 0;
            int before = ' ';
            for (int i = 0; i < HEADING_BYTES; i++) {
                int mark = byteOf(a, b, c, i);
                if (mark == 0) {
                    continue;
                }
                boolean stands = isMark(mark) || mark == ' ' && before != ' ';
                if (!stands || size < i) {
                    return NONE;
                }
                before = mark;
                size++;
            }
            return before == ' ' ? NONE : size;
        }

        void readHeading(int a, int b, int c) {
            for (int i = 0; i < heading.length; i++) {
                heading[i] = (byte) byteOf(a, b, c, i);
            }
            for (int i = 0; i < heading.length && heading[i] != ' '; i++) {
                firstWord = firstWord << 8 | heading[i];
                secondWord = i + 2;
            }
            // More than 8 letters would fall out of a long, and are no W.
            if (secondWord > heading.length || secondWord > Reader.LONGEST_WORD + 1) {
                secondWord = 0;
            }
        }

        int byteAt(int place) {
            return place >= 0 && place < heading.length ? heading[place] : 0;
        }

        boolean isDone() {
            return lineCount >= asked;
        }

        boolean isUnfinishedOf(int whose) {
            return kind == ARTICLE && hand == whose && lineCount < asked && how != STRUCK;
        }
    }

    /** A VOLUME, and how it was laid, once it is SET. */
    private static final class Volume {
        int lastLetter;
        int setDay = NONE;
        int[] order = new int[0];
        int[] laid = new int[0];
        int laidCount;
        int lines;
        int struck;

        Volume(int number) {
            lastLetter = Math.min(25, 5 * number + 4);
        }

        void addLaid(int line) {
            if (laidCount >= 0 && laidCount < laid.length) {
                laid[laidCount] = line;
                laidCount++;
            }
        }

        int laidAt(int i) {
            return i >= 0 && i < laidCount && i < laid.length ? laid[i] : NONE;
        }
    }

    /** A HAND; its ENEMIES are bits of HANDS. */
    private static final class Hand {
        final int fields;
        final int skill;
        final int born;
        boolean lives = true;
        int enemies;
        int pay;

        Hand(int fields, int skill, int born) {
            this.fields = fields;
            this.skill = skill;
            this.born = born;
        }
    }

    /** A LINE; its root is the LINE leaning on a FACT to which its chain leads. */
    private static final class Line {
        final int entry;
        final int hand;
        final int term;
        int fact = NONE;
        int leansOn = NONE;
        int root = NONE;
        int keeps = NONE;
        int place = NONE;
        int pay;

        Line(int entry, int hand, int term) {
            this.entry = entry;
            this.hand = hand;
            this.term = term;
        }
    }

    /** What was told and when: FACTS and ERRATA. */
    private static final class News {
        static final int FACT_COUNT = 40;
        static final int TELL_LIMIT = 600;
        static final int ERRATUM_LIMIT = 60;

        final int[] latest = new int[FACT_COUNT];
        final int[] value = new int[TELL_LIMIT];
        final int[] source = new int[TELL_LIMIT];
        final int[] day = new int[TELL_LIMIT];
        final int[] earlier = new int[TELL_LIMIT];
        int tells;
        final int[] wrongLine = new int[ERRATUM_LIMIT];
        final int[] kept = new int[ERRATUM_LIMIT];
        final int[] should = new int[ERRATUM_LIMIT];
        final int[] erratumDay = new int[ERRATUM_LIMIT];
        final boolean[] missed = new boolean[ERRATUM_LIMIT];
        int errata;

        News() {
            Arrays.fill(latest, NONE);
        }

        // The document tells no limit of its own: its 512 calls stay below this one.
        boolean addFact(int fact, int v, int by, int on) {
            if (fact < 0 || fact >= FACT_COUNT || tells < 0 || tells >= TELL_LIMIT) {
                return false;
            }
            value[tells] = v;
            source[tells] = by;
            day[tells] = on;
            earlier[tells] = latest[fact];
            latest[fact] = tells;
            tells++;
            return true;
        }

        private int tellOn(int fact, int on) {
            int tell = fact >= 0 && fact < FACT_COUNT ? latest[fact] : NONE;
            for (int i = 0; i < TELL_LIMIT && tell >= 0 && tell < TELL_LIMIT; i++) {
                if (day[tell] <= on) {
                    return tell;
                }
                tell = earlier[tell];
            }
            return NONE;
        }

        int valueOn(int fact, int on) {
            int tell = tellOn(fact, on);
            return tell >= 0 && tell < TELL_LIMIT ? value[tell] : NONE;
        }

        int sourceOn(int fact, int on) {
            int tell = tellOn(fact, on);
            return tell >= 0 && tell < TELL_LIMIT ? source[tell] : NONE;
        }

        int addErratum(int line, int is, int shouldBe, int on, boolean misses) {
            if (errata < 0 || errata >= ERRATUM_LIMIT) {
                return NONE;
            }
            wrongLine[errata] = line;
            kept[errata] = is;
            should[errata] = shouldBe;
            erratumDay[errata] = on;
            missed[errata] = misses;
            errata++;
            return errata - 1;
        }

        int missedBy(int erratum) {
            if (erratum < 0 || erratum >= errata || erratum >= ERRATUM_LIMIT) {
                return NONE;
            }
            return missed[erratum] ? 1 : 0;
        }

        /** What a LINE keeps with the ERRATA told up to a DAY. */
        int keptOn(int line, int keeps, int on) {
            int now = keeps;
            for (int i = 0; i < errata && i < ERRATUM_LIMIT; i++) {
                if (wrongLine[i] == line && erratumDay[i] <= on && kept[i] == now) {
                    now = should[i];
                }
            }
            return now;
        }
    }

    /**
     * Lengths of ARTICLES brought to whole sheets. Each line more or less than the length nearest
     * to ASKED costs one, so the whole costs least at the whole number of sheets next to it.
     */
    private static final class Lengths {
        final int[] article = new int[ENTRY_LIMIT];
        final int[] asked = new int[ENTRY_LIMIT];
        final int[] least = new int[ENTRY_LIMIT];
        final int[] most = new int[ENTRY_LIMIT];
        final int[] fitted = new int[ENTRY_LIMIT];
        int size;
        int fixed;

        void begin() {
            size = 0;
            fixed = 0;
        }

        void add(int number, int wanted, int low, int high) {
            if (size >= 0 && size < ENTRY_LIMIT) {
                article[size] = number;
                asked[size] = wanted;
                least[size] = low;
                most[size] = high;
                fitted[size] = Math.max(low, Math.min(high, wanted));
                size++;
            }
        }

        boolean fitTo(int sheet) {
            int shortest = fixed + sumOf(least);
            int longest = fixed + sumOf(most);
            int whole = fixed + sumOf(fitted);
            int over = sheet > 0 ? whole % sheet : 0;
            if (over == 0) {
                return true;
            }
            int under = sheet - over;
            boolean down = whole - over >= shortest;
            boolean up = whole + under <= longest;
            if (down && (!up || over <= under)) {
                shift(least, over);
            } else if (up) {
                shift(most, under);
            }
            return down || up;
        }

        private void shift(int[] toward, int lines) {
            int left = lines;
            for (int i = 0; i < size && i < ENTRY_LIMIT && i < toward.length; i++) {
                int gap = toward[i] - fitted[i];
                int step = Math.min(left, Math.abs(gap));
                fitted[i] += gap < 0 ? -step : step;
                left -= step;
            }
        }

        private int sumOf(int[] numbers) {
            int sum = 0;
            for (int i = 0; i < size && i < numbers.length; i++) {
                sum += numbers[i];
            }
            return sum;
        }

        int differences() {
            int sum = 0;
            for (int i = 0; i < size && i < ENTRY_LIMIT; i++) {
                sum += Math.abs(fitted[i] - asked[i]);
            }
            return sum;
        }

        int fittedOf(int number) {
            for (int i = 0; i < size && i < ENTRY_LIMIT; i++) {
                if (article[i] == number) {
                    return fitted[i];
                }
            }
            return NONE;
        }
    }

    /** Who should write which ARTICLES, so that as many as can be are done in time. */
    private static final class Giver {
        static final int MOST_ARTICLES = 7;
        static final int MOST_HANDS = 6;
        static final int WAYS = 1 << MOST_ARTICLES;
        // One ARTICLE more is worth more than all lines that seven of them lack.
        static final int ARTICLE_WORTH = 10000;

        final int[] article = new int[MOST_ARTICLES];
        final int[] lack = new int[MOST_ARTICLES];
        final int[] chosen = new int[MOST_ARTICLES];
        int articleCount;
        final int[] hand = new int[MOST_HANDS];
        final int[] room = new int[MOST_HANDS];
        final int[] takes = new int[MOST_HANDS];
        int handCount;
        final int[] sums = new int[WAYS];
        final boolean[] reached = new boolean[WAYS];

        void begin() {
            articleCount = 0;
            handCount = 0;
        }

        void addHand(int number, int lines) {
            if (handCount >= 0 && handCount < MOST_HANDS) {
                hand[handCount] = number;
                room[handCount] = lines;
                takes[handCount] = 0;
                handCount++;
            }
        }

        void addArticle(int number, int lacking) {
            if (articleCount >= 0 && articleCount < MOST_ARTICLES) {
                article[articleCount] = number;
                lack[articleCount] = lacking;
                chosen[articleCount] = NONE;
                articleCount++;
            }
        }

        int handNumber(int h) {
            return h >= 0 && h < MOST_HANDS ? hand[h] : NONE;
        }

        /** The ARTICLE added last may be GIVEN to a HAND. */
        void allow(int h) {
            if (h >= 0 && h < MOST_HANDS && articleCount > 0) {
                takes[h] |= 1 << (articleCount - 1);
            }
        }

        int handOf(int number) {
            for (int i = 0; i < articleCount && i < MOST_ARTICLES; i++) {
                if (article[i] == number) {
                    return handNumber(chosen[i]);
                }
            }
            return NONE;
        }

        /** Takes the first way among the best, and answers how many ARTICLES it gives. */
        int choose() {
            int best = bestFrom(0);
            int many = 0;
            for (int i = 0; i < articleCount && i < MOST_ARTICLES; i++) {
                int worth = ARTICLE_WORTH - lack[i];
                chosen[i] = firstHandFor(i, best - worth);
                if (chosen[i] != NONE) {
                    best -= worth;
                    many++;
                }
            }
            return many;
        }

        private int firstHandFor(int i, int rest) {
            if (i < 0 || i >= MOST_ARTICLES) {
                return NONE;
            }
            for (int h = 0; h < handCount && h < MOST_HANDS; h++) {
                if ((takes[h] >> i & 1) == 0 || lack[i] > room[h]) {
                    continue;
                }
                room[h] -= lack[i];
                if (bestFrom(i + 1) == rest) {
                    return h;
                }
                room[h] += lack[i];
            }
            return NONE;
        }

        /** The worth of the best way to give the ARTICLES from one on, with the room that is left. */
        private int bestFrom(int first) {
            int count = Math.max(0, Math.min(MOST_ARTICLES, articleCount) - first);
            int ways = Math.min(WAYS, 1 << count);
            sumLacks(first, ways);
            for (int set = 0; set < WAYS; set++) {
                reached[set] = set == 0;
            }
            for (int h = 0; h < handCount && h < MOST_HANDS; h++) {
                reachWith(takes[h] >> first, room[h], ways);
            }
            int best = 0;
            for (int set = 0; set < ways && set < WAYS; set++) {
                if (reached[set]) {
                    best = Math.max(best, ARTICLE_WORTH * Integer.bitCount(set) - sums[set]);
                }
            }
            return best;
        }

        private void sumLacks(int first, int ways) {
            sums[0] = 0;
            for (int set = 1; set < ways && set < WAYS; set++) {
                int i = first + Integer.numberOfTrailingZeros(set);
                sums[set] = sums[set & (set - 1)] + (i >= 0 && i < MOST_ARTICLES ? lack[i] : 0);
            }
        }

        // From the greatest set down: a smaller one still tells what was reached without this HAND.
        private void reachWith(int taken, int lines, int ways) {
            for (int set = Math.min(ways, WAYS) - 1; set > 0; set--) {
                for (int part = set; part > 0 && !reached[set]; part = (part - 1) & set) {
                    boolean fits = (part & ~taken) == 0 && sums[part] <= lines;
                    if (fits && reached[set ^ part]) {
                        reached[set] = true;
                    }
                }
            }
        }
    }

    /**
     * The THIEF's row, laid on a row of LINES that comes one by one. A way is weighed by its
     * CHANGES first, and among like ones by what it shares, in one number.
     */
    private static final class Thief {
        static final int ROW_LIMIT = 30;
        static final int CHANGE = 64;

        final int[] row = new int[ROW_LIMIT];
        int size;
        final int[] weight = new int[ROW_LIMIT + 1];

        int add(int number) {
            if (size < 0 || size >= ROW_LIMIT) {
                return NONE;
            }
            row[size] = number;
            size++;
            return size;
        }

        void begin() {
            for (int i = 0; i <= ROW_LIMIT; i++) {
                weight[i] = i * CHANGE;
            }
        }

        void meet(int kept, boolean wrong) {
            int slant = weight[0];
            weight[0] += CHANGE;
            for (int i = 0; i < size && i < ROW_LIMIT; i++) {
                int above = weight[i + 1];
                int change = row[i] != kept ? CHANGE : wrong ? -1 : 0;
                weight[i + 1] = Math.min(slant + change, Math.min(above, weight[i]) + CHANGE);
                slant = above;
            }
        }

        private int weightOfAll() {
            return size >= 0 && size <= ROW_LIMIT ? weight[size] : 0;
        }

        int changes() {
            return (weightOfAll() + CHANGE - 1) / CHANGE;
        }

        int shared() {
            return changes() * CHANGE - weightOfAll();
        }
    }
}
