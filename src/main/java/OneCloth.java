/** One cloth over the bazaar: what the calls answer is told, promise by promise, in DOC.md. */
public final class OneCloth {
    public static final int BAD = -1000000001, NO = -1000000002, FULL = -1000000003, NONE = -1000000005,
            NOTHING = -1000000011, KIND = -1000000012, INDEX = -1000000013, SIZE = -1000000014;

    private static final int PLACES = 12, STALLS = 9, WIDEST = 6, LAST_HOUR = 9999;
    private static final int MOST_GOODS = 999, MOST_PAY = 99, MOST_GUST = 100;

    private static final int PLAIN = 0, FISH = 1, BLIND = 2, BUTTER = 3, HOLY = 4, IDLE = 5, KINDS = 6;
    /** By KIND: the KIND right above it. */
    private static final int[] ABOVE = {NONE, PLAIN, PLAIN, FISH, BLIND, PLAIN};

    private static final int BY_NOTHING = 0, BY_LOSS = 1, BY_PAY = 2, MODES = 3;
    private static final int STAY = 0, DOWN = 1, UP = 2, MOVES = 3;

    private static final int MELT = 0, FEE = 1, FINE = 2, KEYS = 3;
    private static final int TEXTS = 14, TAPE = 96, FAULT_BASE = -100;

    private static final int SHEETS = 4, LONGEST = 24, MISSING = -1, SHORTS = 0, FLOATS = 1, MOST_FLOAT = 99999;
    private static final int SLOTS = 5, NO_THING = 0, A_STALL = 1, A_SHEET = 2, A_NUMBER = 3;

    /** More than any SPOILT or difference can be. */
    private static final int BEYOND_ALL = 2147483647;
    private static final int MOST_WAITING = 60, MOST_CHECKED = 30;
    private static final int MOST_BEHIND = 100, MOST_THOUGHT = 60, MOST_BEST = 5, MOST_WIDER = 9999;

    // All rows are made once, with the object: the calls themselves make none.
    private final Text[] texts;
    private final Bazaar now;
    private final Bazaar thought;
    private final Bazaar image;
    private final Bazaar[] ahead = new Bazaar[MOST_BEST + 1];
    private final int[] tape;
    private final Reader reader;
    private final Sheet[] sheets = new Sheet[SHEETS];
    private final Slot[] slots = new Slot[SLOTS];
    private final int[] waiting = new int[MOST_WAITING];
    private int tapeLength;
    private int waitingCount;
    private boolean imageKept;
    private int leastSpoilt;
    private int leastDigits;

    public OneCloth() {
        Text[] rows = new Text[TEXTS];
        for (int i = 0; i < TEXTS; i++) {
            rows[i] = new Text();
        }
        int[] bytes = new int[TAPE];
        for (int i = 0; i <= MOST_BEST; i++) {
            ahead[i] = new Bazaar(rows);
        }
        for (int i = 0; i < SHEETS; i++) {
            sheets[i] = new Sheet();
        }
        for (int i = 0; i < SLOTS; i++) {
            slots[i] = new Slot();
        }
        now = new Bazaar(rows);
        thought = new Bazaar(rows);
        image = new Bazaar(rows);
        reader = new Reader(bytes);
        texts = rows;
        tape = bytes;
    }

    // ---- stalls, the cloth

    public int stall(int kind, int place, int pay) {
        if (!within(kind, 0, KINDS - 1) || !within(place, 0, PLACES - 1) || !within(pay, 0, MOST_PAY)) {
            return BAD;
        }
        if (now.stallCount >= STALLS) {
            return FULL;
        }
        return now.open(kind, place, pay);
    }

    public int told(int stall, int what) {
        if (!isStall(stall)) {
            return BAD;
        }
        Stall s = now.stalls[stall];
        switch (what) {
            case 0: return s.kind;
            case 1: return s.place;
            case 2: return s.goods;
            case 3: return s.pay;
            case 4: return now.lossOf(s);
            case 5: return now.shades(s.place) ? 1 : 0;
            case 6: return s.worth();
            default: return BAD;
        }
    }

    public int as(int stall, int kind) {
        if (!isStall(stall) || !within(kind, 0, KINDS - 1)) {
            return BAD;
        }
        Stall s = now.stalls[stall];
        return s.isOf(kind) ? s.pay : KIND;
    }

    public int turns(int stall, int kind) {
        if (!isStall(stall) || !within(kind, 0, KINDS - 1)) {
            return BAD;
        }
        Stall s = now.stalls[stall];
        int was = s.kind;
        s.kind = kind;
        return was;
    }

    public int set(int stall, int what, int v) {
        if (!isStall(stall)) {
            return BAD;
        }
        switch (what) {
            case 1: return setPlace(now.stalls[stall], v);
            case 2: return setGoods(now.stalls[stall], v);
            case 3: return setPay(now.stalls[stall], v);
            default: return BAD;
        }
    }

    private static int setPlace(Stall s, int v) {
        if (!within(v, 0, PLACES - 1)) {
            return BAD;
        }
        int was = s.place;
        s.place = v;
        return was;
    }

    private static int setGoods(Stall s, int v) {
        if (!within(v, 0, MOST_GOODS)) {
            return BAD;
        }
        int was = s.goods;
        s.goods = v;
        return was;
    }

    private static int setPay(Stall s, int v) {
        if (!within(v, 0, MOST_PAY)) {
            return BAD;
        }
        int was = s.pay;
        s.pay = v;
        return was;
    }

    public int cloth(int what) {
        switch (what) {
            case 0: return now.first;
            case 1: return now.width;
            case 2: return now.gust;
            case 3: return now.mode;
            case 4: return now.heat();
            case 5: return now.firstShaded();
            case 6: return now.shadedSet();
            default: return BAD;
        }
    }

    public int rule(int what, int v) {
        switch (what) {
            case 0: return ruleFirst(v);
            case 1: return ruleWidth(v);
            case 2: return ruleGust(v);
            case 3: return ruleMode(v);
            default: return BAD;
        }
    }

    private int ruleFirst(int v) {
        if (!within(v, 0, now.lastFirst())) {
            return BAD;
        }
        int was = now.first;
        now.first = v;
        return was;
    }

    private int ruleWidth(int v) {
        if (!within(v, 1, WIDEST)) {
            return BAD;
        }
        int was = now.width;
        now.widen(v);
        return was;
    }

    private int ruleGust(int v) {
        if (!within(v, 0, MOST_GUST)) {
            return BAD;
        }
        int was = now.gust;
        now.gust = v;
        return was;
    }

    private int ruleMode(int v) {
        if (!within(v, 0, MODES - 1)) {
            return BAD;
        }
        int was = now.mode;
        now.mode = v;
        return was;
    }

    public int deal(int n) {
        if (!within(n, 1, STALLS)) {
            return BAD;
        }
        int came = Math.min(n, STALLS - now.stallCount);
        for (int i = 0; i < came; i++) {
            int kind = now.draw() % KINDS;
            int place = now.draw() % PLACES;
            int pay = now.draw() % 40;
            now.open(kind, place, pay);
        }
        return came;
    }

    public int seed(int v) {
        int was = now.z;
        now.z = v;
        return was;
    }

    // ---- hours

    public int hours(int n) {
        if (!within(n, 1, 100)) {
            return BAD;
        }
        int before = now.spoilt;
        int passing = Math.min(n, LAST_HOUR - now.hour);
        for (int i = 0; i < passing; i++) {
            now.passHour(now.hauling());
        }
        return now.spoilt - before;
    }

    public int book(int what) {
        switch (what) {
            case 0: return now.spoilt;
            case 1: return now.coins;
            case 2: return now.torn;
            case 3: return now.allGoods();
            default: return BAD;
        }
    }

    // ---- what will be

    public int behind(int n, int what) {
        if (!within(n, 0, MOST_BEHIND) || !within(what, 0, 3)) {
            return BAD;
        }
        thought.takeOver(now);
        thinkOn(n);
        switch (what) {
            case 0: return thought.spoilt;
            case 1: return thought.coins;
            case 2: return thought.first;
            default: return thought.torn;
        }
    }

    public int goods(int stall, int n) {
        if (!isStall(stall) || !within(n, 0, MOST_BEHIND)) {
            return BAD;
        }
        thought.takeOver(now);
        thinkOn(n);
        return thought.stalls[stall].goods;
    }

    public int best(int n, int what) {
        if (!within(n, 1, MOST_BEST) || !within(what, 0, 1)) {
            return BAD;
        }
        leastSpoilt = BEYOND_ALL;
        leastDigits = 0;
        ahead[0].takeOver(now);
        tryHaulings(0, n, 0);
        return what == 0 ? leastDigits : leastSpoilt;
    }

    /** Rows of haulings come in the order of their numbers, so only a lesser SPOILT takes the place of a found one. */
    private void tryHaulings(int depth, int n, int digits) {
        if (depth < 0 || depth > MOST_BEST) {
            return;
        }
        Bazaar here = ahead[depth];
        // SPOILT never shrinks: a row that has lost as much already cannot become better.
        if (here.spoilt >= leastSpoilt) {
            return;
        }
        if (depth >= n || depth == MOST_BEST) {
            leastSpoilt = here.spoilt;
            leastDigits = digits;
            return;
        }
        for (int move = 0; move < MOVES; move++) {
            ahead[depth + 1].takeOver(here);
            ahead[depth + 1].passHour(move);
            tryHaulings(depth + 1, n, digits * MOVES + move);
        }
    }

    public int wider(int w, int n) {
        if (!within(w, 0, MOST_WIDER) || !within(n, 1, MOST_THOUGHT)) {
            return BAD;
        }
        for (int width = 1; width <= WIDEST; width++) {
            thought.takeOver(now);
            thought.widen(width);
            thinkOn(n);
            if (thought.spoilt <= w) {
                return width;
            }
        }
        return NONE;
    }

    public int shaded(int stall, int n) {
        if (!isStall(stall) || !within(n, 1, MOST_THOUGHT)) {
            return BAD;
        }
        thought.takeOver(now);
        int place = thought.stalls[stall].place;
        int hoursInShade = 0;
        for (int i = 0; i < n; i++) {
            int move = thought.hauling();
            if (thought.wouldShade(thought.hauledTo(move), place)) {
                hoursInShade++;
            }
            thought.passHour(move);
        }
        return hoursInShade;
    }

    public int without(int n, int what) {
        if (!within(n, 1, MOST_THOUGHT) || !within(what, 0, 1)) {
            return BAD;
        }
        if (now.stallCount == 0) {
            return NONE;
        }
        int found = 0;
        int most = -1;
        for (int i = 0; i < now.stallCount; i++) {
            thought.takeOver(now);
            thought.stalls[i].pay = 0;
            thinkOn(n);
            if (thought.coins > most) {
                found = i;
                most = thought.coins;
            }
        }
        return what == 0 ? found : most;
    }

    public int whose(int sheet, int n, int what) {
        if (!isSheet(sheet) || !within(n, 0, MOST_THOUGHT) || !within(what, 0, 1)) {
            return BAD;
        }
        if (sheets[sheet].isMissing()) {
            return NOTHING;
        }
        int found = BY_NOTHING;
        int least = BEYOND_ALL;
        for (int mode = 0; mode < MODES; mode++) {
            thought.takeOver(now);
            thought.mode = mode;
            thinkOn(n);
            int differences = thought.differencesFrom(sheets[sheet]);
            if (differences < least) {
                found = mode;
                least = differences;
            }
        }
        return what == 0 ? found : least;
    }

    private void thinkOn(int n) {
        for (int i = 0; i < n; i++) {
            thought.passHour(thought.hauling());
        }
    }

    public int fee() {
        int text = now.counting[FEE];
        if (!within(text, 0, TEXTS - 1)) {
            return now.coins;
        }
        return texts[text].workOut(now.coins, now.torn, 0);
    }

    public int fine(int stall) {
        if (!isStall(stall)) {
            return BAD;
        }
        Stall s = now.stalls[stall];
        int text = now.counting[FINE];
        if (!within(text, 0, TEXTS - 1)) {
            return s.goods;
        }
        return texts[text].workOut(s.goods, now.shades(s.place) ? 1 : 0, 0);
    }

    // ---- texts

    public int feed(int a, int b, int c) {
        if (tapeLength + 12 > TAPE) {
            return FULL;
        }
        feedBytes(a);
        feedBytes(b);
        feedBytes(c);
        return tapeLength;
    }

    private void feedBytes(int number) {
        for (int shift = 24; shift >= 0 && tapeLength < TAPE; shift -= 8) {
            tape[tapeLength] = (number >>> shift) & 255;
            tapeLength++;
        }
    }

    public int trim(int n) {
        if (!within(n, 0, tapeLength)) {
            return BAD;
        }
        tapeLength = n;
        return n;
    }

    public int text() {
        int fault = reader.readText(tapeLength);
        tapeLength = 0;
        if (fault != NONE) {
            return FAULT_BASE - fault;
        }
        if (now.textCount >= TEXTS) {
            return FULL;
        }
        return now.enact(reader.draft);
    }

    public int textTold(int text, int what) {
        if (!within(text, 0, now.textCount - 1)) {
            return BAD;
        }
        switch (what) {
            case 0: return texts[text].key;
            case 1: return texts[text].leaves;
            default: return BAD;
        }
    }

    public int why(int key) {
        return within(key, 0, KEYS - 1) ? now.counting[key] : BAD;
    }

    // ---- sheets, slots

    public int sheet(int sheet, int sort, int n) {
        if (!isSheet(sheet) || !within(sort, MISSING, FLOATS)) {
            return BAD;
        }
        if (sort == MISSING) {
            sheets[sheet].become(MISSING, 0);
            return 0;
        }
        if (n > LONGEST) {
            return BAD;
        }
        if (n < 0) {
            return SIZE;
        }
        sheets[sheet].become(sort, n);
        return n;
    }

    public int mark(int sheet, int place, int v) {
        if (!isSheet(sheet)) {
            return BAD;
        }
        Sheet row = sheets[sheet];
        if (row.isMissing()) {
            return NOTHING;
        }
        if (!row.hasPlace(place)) {
            return INDEX;
        }
        if (row.sort == SHORTS) {
            if (v == NONE) {
                return KIND;
            }
            row.values[place] = (short) v;
            return 1;
        }
        if (v != NONE && !within(v, -MOST_FLOAT, MOST_FLOAT)) {
            return BAD;
        }
        row.values[place] = v;
        return 1;
    }

    public int pour(int sheet) {
        if (!isSheet(sheet)) {
            return BAD;
        }
        Sheet row = sheets[sheet];
        if (row.isMissing()) {
            return NOTHING;
        }
        int otherwise = 0;
        for (int i = 0; i < now.stallCount; i++) {
            if (row.hasNumber(i)) {
                int poured = held(row.values[i], 0, MOST_GOODS);
                otherwise += poured == now.stalls[i].goods ? 0 : 1;
                now.stalls[i].goods = poured;
            }
        }
        return otherwise;
    }

    public int reads(int sheet) {
        if (!isSheet(sheet)) {
            return BAD;
        }
        Sheet row = sheets[sheet];
        if (row.isMissing()) {
            return NOTHING;
        }
        for (int i = 0; i < row.length; i++) {
            if (row.hasNumber(i) && (!isStall(i) || row.values[i] != now.lossOf(now.stalls[i]))) {
                return i;
            }
        }
        return NONE;
    }

    public int copy(int from, int place, int to, int at, int many) {
        if (!isSheet(from) || !isSheet(to)) {
            return BAD;
        }
        Sheet source = sheets[from];
        Sheet target = sheets[to];
        if (source.isMissing() || target.isMissing()) {
            return NOTHING;
        }
        if (source.sort != target.sort) {
            return KIND;
        }
        if (!source.hasPlaces(place, many) || !target.hasPlaces(at, many)) {
            return INDEX;
        }
        System.arraycopy(source.values, place, target.values, at, many);
        return many;
    }

    public int lay(int slot, int thing, int k) {
        if (!isSlot(slot) || !within(thing, NO_THING, A_NUMBER)) {
            return BAD;
        }
        Slot into = slots[slot];
        int was = into.thing;
        if (thing == A_STALL) {
            if (!isStall(k)) {
                return BAD;
            }
            into.stall.takeOver(now.stalls[k]);
        } else if (thing == A_SHEET) {
            if (!isSheet(k)) {
                return BAD;
            }
            if (sheets[k].isMissing()) {
                return NOTHING;
            }
            into.sheet.takeOver(sheets[k]);
        } else if (thing == A_NUMBER) {
            into.number = k;
        }
        into.thing = thing;
        return was;
    }

    public int ask(int slot, int kind) {
        if (!isSlot(slot) || !within(kind, 0, KINDS - 1)) {
            return BAD;
        }
        int refused = slots[slot].refuses(A_STALL);
        if (refused != 0) {
            return refused;
        }
        Stall s = slots[slot].stall;
        return s.isOf(kind) ? s.worth() : KIND;
    }

    public int item(int slot, int place) {
        if (!isSlot(slot)) {
            return BAD;
        }
        int refused = slots[slot].refuses(A_SHEET);
        if (refused != 0) {
            return refused;
        }
        Sheet row = slots[slot].sheet;
        if (!row.hasPlace(place)) {
            return INDEX;
        }
        return row.hasNumber(place) ? row.values[place] : KIND;
    }

    public int rest(int slot, int n) {
        if (!isSlot(slot)) {
            return BAD;
        }
        int refused = slots[slot].refuses(A_NUMBER);
        if (refused != 0) {
            return refused;
        }
        return n == 0 ? NO : slots[slot].number % n;
    }

    // ---- rows, images

    public int tell(int v) {
        if (waitingCount >= MOST_WAITING) {
            return FULL;
        }
        waiting[waitingCount] = v;
        waitingCount++;
        return waitingCount;
    }

    public int check(int n) {
        int given = waitingCount;
        waitingCount = 0;
        if (!within(n, 1, MOST_CHECKED)) {
            return BAD;
        }
        if (!imageKept) {
            return NO;
        }
        thought.takeOver(image);
        int passing = Math.min(n, LAST_HOUR - image.hour);
        for (int i = 0; i < passing; i++) {
            thought.passHour(thought.hauling());
            int at = 2 * i;
            if (at >= given || waiting[at] != thought.spoilt) {
                return 1 + at;
            }
            if (at + 1 >= given || waiting[at + 1] != thought.first) {
                return 2 + at;
            }
        }
        int due = 2 * passing;
        return given > due ? 1 + due : 0;
    }

    public int keep() {
        image.takeOver(now);
        imageKept = true;
        return now.stallCount;
    }

    public int back() {
        if (!imageKept) {
            return NO;
        }
        now.takeOver(image);
        return now.stallCount;
    }

    public int count(int what) {
        switch (what) {
            case 0: return now.stallCount;
            case 1: return now.hour;
            case 2: return Integer.bitCount(now.shadedSet());
            case 3: return now.textCount;
            case 4: return waitingCount;
            case 5: return tapeLength;
            case 6: return now.z;
            default: return BAD;
        }
    }

    private boolean isStall(int stall) {
        return within(stall, 0, now.stallCount - 1);
    }

    private static boolean isSheet(int sheet) {
        return within(sheet, 0, SHEETS - 1);
    }

    private static boolean isSlot(int slot) {
        return within(slot, 0, SLOTS - 1);
    }

    private static boolean within(int v, int least, int most) {
        return v >= least && v <= most;
    }

    private static int held(int v, int least, int most) {
        return Math.max(least, Math.min(v, most));
    }

    private static final class Stall {
        int kind;
        int place;
        int goods;
        int pay;

        void takeOver(Stall other) {
            kind = other.kind;
            place = other.place;
            goods = other.goods;
            pay = other.pay;
        }

        boolean isOf(int asked) {
            int k = kind;
            for (int up = 0; up < KINDS && within(k, 0, KINDS - 1); up++) {
                if (k == asked) {
                    return true;
                }
                k = ABOVE[k];
            }
            return false;
        }

        int worth() {
            switch (kind) {
                case FISH: return pay + 6;
                case BUTTER: return 2 * (pay + 6);
                case BLIND: return 99 - pay;
                case HOLY: return 99 - pay - 8;
                case IDLE: return 2;
                default: return pay;
            }
        }

        /** plain: what a STALL with no KIND under it would lose. */
        int sunLoss(int plain) {
            switch (kind) {
                case FISH: return 2 * plain;
                case BUTTER: return 2 * plain + 5;
                case BLIND: return 0;
                case HOLY: return 0;
                case IDLE: return plain / 2;
                default: return plain;
            }
        }

        int shadeLoss() {
            return kind == HOLY ? 2 : 0;
        }
    }

    /** All that an IMAGE keeps; the things of what will be are thought in others of the same class. */
    private static final class Bazaar {
        // One row for all: the first textCount of it are never written again, so copies need only the count.
        final Text[] texts;
        final Stall[] stalls = new Stall[STALLS];
        /** By KEY: the TEXT that counts, or NONE. */
        final int[] counting = {NONE, NONE, NONE};
        int stallCount;
        int textCount;
        int width = 3;
        int first;
        int hour;
        int gust = 10;
        int mode = BY_NOTHING;
        int coins;
        int spoilt;
        int torn;
        int z = 1;

        Bazaar(Text[] texts) {
            this.texts = texts;
            for (int i = 0; i < STALLS; i++) {
                stalls[i] = new Stall();
            }
        }

        void takeOver(Bazaar other) {
            stallCount = other.stallCount;
            for (int i = 0; i < stallCount; i++) {
                stalls[i].takeOver(other.stalls[i]);
            }
            textCount = other.textCount;
            for (int key = 0; key < KEYS; key++) {
                counting[key] = other.counting[key];
            }
            width = other.width;
            first = other.first;
            hour = other.hour;
            gust = other.gust;
            mode = other.mode;
            coins = other.coins;
            spoilt = other.spoilt;
            torn = other.torn;
            z = other.z;
        }

        int open(int kind, int place, int pay) {
            if (stallCount >= STALLS) {
                return FULL;
            }
            Stall s = stalls[stallCount];
            s.kind = kind;
            s.place = place;
            s.goods = 100;
            s.pay = pay;
            stallCount++;
            return stallCount - 1;
        }

        int enact(Text draft) {
            if (textCount >= TEXTS || !within(draft.key, 0, KEYS - 1)) {
                return FULL;
            }
            texts[textCount].takeOver(draft);
            counting[draft.key] = textCount;
            textCount++;
            return textCount - 1;
        }

        int draw() {
            z = z * 1103515245 + 12345;
            return z >>> 8;
        }

        int heat() {
            return 45 - 5 * Math.abs(hour % 10 - 5);
        }

        /** By how many PLACES the SHADE lies beside THE CLOTH. */
        int slant() {
            return (hour % 10 - 5) / 2;
        }

        boolean shades(int place) {
            return wouldShade(first, place);
        }

        boolean wouldShade(int from, int place) {
            int start = from + slant();
            return place >= start && place < start + width;
        }

        int firstShaded() {
            for (int place = 0; place < PLACES; place++) {
                if (shades(place)) {
                    return place;
                }
            }
            return NONE;
        }

        int shadedSet() {
            int bits = 0;
            for (int i = 0; i < stallCount; i++) {
                if (shades(stalls[i].place)) {
                    bits |= 1 << i;
                }
            }
            return bits;
        }

        int allGoods() {
            int sum = 0;
            for (int i = 0; i < stallCount; i++) {
                sum += stalls[i].goods;
            }
            return sum;
        }

        int differencesFrom(Sheet row) {
            int sum = 0;
            for (int i = 0; i < stallCount; i++) {
                if (row.hasNumber(i)) {
                    sum += Math.abs(stalls[i].goods - row.values[i]);
                }
            }
            return sum;
        }

        int lastFirst() {
            return PLACES - width;
        }

        void widen(int to) {
            width = to;
            first = held(first, 0, lastFirst());
        }

        int lossOf(Stall s) {
            if (s.goods == 0) {
                return 0;
            }
            int loss = shades(s.place) ? s.shadeLoss() : s.sunLoss(plainLoss(s));
            return Math.min(s.goods, loss);
        }

        int plainLoss(Stall s) {
            int text = counting[MELT];
            if (!within(text, 0, TEXTS - 1)) {
                return heat() / 5;
            }
            return held(texts[text].workOut(heat(), s.goods, s.pay), 0, s.goods);
        }

        int hauling() {
            switch (mode) {
                case BY_LOSS: return haulingByLoss();
                case BY_PAY: return haulingByPay();
                default: return STAY;
            }
        }

        int haulingByLoss() {
            int move = STAY;
            int most = 0;
            for (int i = 0; i < stallCount; i++) {
                Stall s = stalls[i];
                int loss = shades(s.place) ? 0 : lossOf(s);
                if (loss > most) {
                    most = loss;
                    move = s.place < first + slant() ? DOWN : UP;
                }
            }
            return move;
        }

        int haulingByPay() {
            int found = STAY;
            int most = -1;
            for (int move = 0; move < MOVES; move++) {
                int sum = payUnder(hauledTo(move));
                if (sum > most) {
                    most = sum;
                    found = move;
                }
            }
            return found;
        }

        int payUnder(int from) {
            int sum = 0;
            for (int i = 0; i < stallCount; i++) {
                if (wouldShade(from, stalls[i].place)) {
                    sum += stalls[i].pay;
                }
            }
            return sum;
        }

        int hauledTo(int move) {
            switch (move) {
                case DOWN: return Math.max(first - 1, 0);
                case UP: return Math.min(first + 1, lastFirst());
                default: return first;
            }
        }

        void passHour(int move) {
            first = hauledTo(move);
            for (int i = 0; i < stallCount; i++) {
                Stall s = stalls[i];
                int loss = lossOf(s);
                s.goods -= loss;
                spoilt += loss;
                if (shades(s.place)) {
                    coins += s.pay;
                }
            }
            blow();
            hour++;
        }

        void blow() {
            if (draw() % 100 >= gust) {
                return;
            }
            int by = draw() % 3 - 1;
            first = held(first + by, 0, lastFirst());
            if (by != 0) {
                torn++;
            }
        }
    }

    /** A TEXT as steps of a stack machine: what an E stands for is worked out without recursion. */
    private static final class Text {
        // NUMBERS stand as themselves, NAMES as FIRST_NAME less their place, the rest as the sign below SIGNS.
        static final int FIRST_NAME = -1, SIGNS = -1000;

        int key;
        int leaves;
        int length;
        final int[] steps = new int[TAPE];
        final int[] stack = new int[TAPE];

        void takeOver(Text other) {
            key = other.key;
            leaves = other.leaves;
            length = other.length;
            System.arraycopy(other.steps, 0, steps, 0, TAPE);
        }

        void begin(int ofKey) {
            key = ofKey;
            leaves = 0;
            length = 0;
        }

        void addLeaf(int step) {
            leaves++;
            addStep(step);
        }

        void addStep(int step) {
            if (length < TAPE) {
                steps[length] = step;
                length++;
            }
        }

        int workOut(int a, int b, int c) {
            int top = -1;
            for (int i = 0; i < length; i++) {
                int step = steps[i];
                if (step > SIGNS) {
                    if (top >= TAPE - 1) {
                        return 0;
                    }
                    top++;
                    stack[top] = step >= 0 ? step : step == FIRST_NAME ? a : step == FIRST_NAME - 1 ? b : c;
                } else if (step == SIGNS - '!') {
                    if (top < 0) {
                        return 0;
                    }
                    stack[top] = stack[top] == 0 ? 1 : 0;
                } else {
                    if (top < 1) {
                        return 0;
                    }
                    top--;
                    stack[top] = joined(SIGNS - step, stack[top], stack[top + 1]);
                }
            }
            return top < 0 ? 0 : stack[top];
        }

        static int joined(int sign, int left, int right) {
            switch (sign) {
                case '|': return left != 0 || right != 0 ? 1 : 0;
                case '&': return left != 0 && right != 0 ? 1 : 0;
                case '<': return left < right ? 1 : 0;
                case '=': return left == right ? 1 : 0;
                case '>': return left > right ? 1 : 0;
                case '+': return left + right;
                case '-': return left - right;
                case '*': return left * right;
                default: return right == 0 ? 0 : left / right;
            }
        }
    }

    /** Reads THE TAPE into a draft of a TEXT. */
    private static final class Reader {
        static final int END = 0, LETTERS = 1, DIGITS = 2, SIGN = 3, NEVER = 4;
        static final int OR = 0, AND = 1, TEST = 2, SUM = 3, TERM = 4;
        static final int MOST_OPEN = 8, MOST_DIGITS = 4;

        final int[] tape;
        final Text draft = new Text();
        int tapeLength;
        int sort;
        int start;
        int end;
        int openBrackets;
        int openNots;

        Reader(int[] tape) {
            this.tape = tape;
        }

        /** The place of the FAULT; NONE: the draft holds the TEXT. */
        int readText(int length) {
            tapeLength = held(length, 0, TAPE);
            sort = END;
            end = 0;
            openBrackets = 0;
            openNots = 0;
            advance();
            int key = keyHere();
            if (key == NONE) {
                return start;
            }
            draft.begin(key);
            advance();
            return readLevel(OR) && sort == END ? NONE : start;
        }

        /** Goes on to the next word or sign; one with which no TEXT goes on anywhere is of sort NEVER. */
        void advance() {
            boolean behindWord = sort == LETTERS || sort == DIGITS;
            int wordEnd = end;
            start = end;
            while (start < tapeLength && tape[start] == ' ') {
                start++;
            }
            end = start;
            sort = sortAt(start);
            if (sort == END) {
                return;
            }
            end++;
            while (sort != SIGN && end < tapeLength && sortAt(end) == sort) {
                end++;
            }
            boolean needsBlank = behindWord && sort != SIGN && start == wordEnd;
            boolean tooLong = sort == DIGITS && end - start > MOST_DIGITS;
            if (needsBlank || tooLong) {
                sort = NEVER;
            }
        }

        int sortAt(int at) {
            if (at < 0 || at >= tapeLength) {
                return END;
            }
            int b = tape[at];
            if (b >= 'a' && b <= 'z') {
                return LETTERS;
            }
            return b >= '0' && b <= '9' ? DIGITS : SIGN;
        }

        int keyHere() {
            if (isWord("melt")) {
                return MELT;
            }
            if (isWord("fee")) {
                return FEE;
            }
            return isWord("fine") ? FINE : NONE;
        }

        boolean isWord(String word) {
            if (sort != LETTERS || end - start != word.length()) {
                return false;
            }
            for (int i = 0; i < word.length(); i++) {
                if (sortAt(start + i) != LETTERS || tape[start + i] != word.charAt(i)) {
                    return false;
                }
            }
            return true;
        }

        int signHere() {
            return sort == SIGN && within(start, 0, TAPE - 1) ? tape[start] : NONE;
        }

        /** False: what stands at start is the FAULT. */
        private boolean readLevel(int level) {
            if (level > TERM) {
                return readPiece();
            }
            if (!readLevel(level + 1)) {
                return false;
            }
            for (int joins = 0; joins < TAPE; joins++) {
                int sign = signHere();
                if (levelOf(sign) != level) {
                    return true;
                }
                advance();
                if (!readLevel(level + 1)) {
                    return false;
                }
                draft.addStep(Text.SIGNS - sign);
                if (level == TEST) {
                    return true;
                }
            }
            return true;
        }

        static int levelOf(int sign) {
            switch (sign) {
                case '|': return OR;
                case '&': return AND;
                case '<': return TEST;
                case '=': return TEST;
                case '>': return TEST;
                case '+': return SUM;
                case '-': return SUM;
                case '*': return TERM;
                case '/': return TERM;
                default: return NONE;
            }
        }

        private boolean readPiece() {
            switch (sort) {
                case DIGITS: return readNumber();
                case LETTERS: return readName();
                default: break;
            }
            switch (signHere()) {
                case '!': return readNot();
                case '(': return readBracket();
                default: return false;
            }
        }

        private boolean readNumber() {
            int number = 0;
            for (int i = start; i < end && i < tapeLength; i++) {
                number = number * 10 + tape[i] - '0';
            }
            draft.addLeaf(number);
            advance();
            return true;
        }

        private boolean readName() {
            int name = end - start == 1 && start < tapeLength ? namesOf(draft.key).indexOf((char) tape[start]) : -1;
            if (name < 0) {
                return false;
            }
            draft.addLeaf(Text.FIRST_NAME - name);
            advance();
            return true;
        }

        static String namesOf(int key) {
            switch (key) {
                case MELT: return "hgp";
                case FEE: return "ct";
                default: return "gs";
            }
        }

        private boolean readNot() {
            if (openNots >= MOST_OPEN) {
                return false;
            }
            openNots++;
            advance();
            if (!readPiece()) {
                return false;
            }
            openNots--;
            draft.addStep(Text.SIGNS - '!');
            return true;
        }

        private boolean readBracket() {
            if (openBrackets >= MOST_OPEN) {
                return false;
            }
            openBrackets++;
            advance();
            if (!readLevel(OR) || signHere() != ')') {
                return false;
            }
            openBrackets--;
            advance();
            return true;
        }
    }

    /** A row of shorts or of floats: floats are whole and small enough that an int holds each as it is. */
    private static final class Sheet {
        int sort = MISSING;
        int length;
        /** NONE stands for NO NUMBER: no short and no float of a SHEET is as small. */
        final int[] values = new int[LONGEST];

        void become(int newSort, int newLength) {
            sort = newSort;
            length = held(newLength, 0, LONGEST);
            for (int i = 0; i < LONGEST; i++) {
                values[i] = 0;
            }
        }

        void takeOver(Sheet other) {
            sort = other.sort;
            length = other.length;
            System.arraycopy(other.values, 0, values, 0, LONGEST);
        }

        boolean isMissing() {
            return sort == MISSING;
        }

        boolean hasPlace(int place) {
            return within(place, 0, length - 1);
        }

        boolean hasPlaces(int place, int many) {
            return place >= 0 && many >= 0 && (long) place + many <= length;
        }

        boolean hasNumber(int place) {
            return hasPlace(place) && values[place] != NONE;
        }
    }

    private static final class Slot {
        int thing = NO_THING;
        int number;
        final Stall stall = new Stall();
        final Sheet sheet = new Sheet();

        /** 0: it holds the wanted thing. */
        int refuses(int wanted) {
            if (thing == NO_THING) {
                return NOTHING;
            }
            return thing == wanted ? 0 : KIND;
        }
    }
}
