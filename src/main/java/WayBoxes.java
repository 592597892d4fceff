import java.util.Arrays;

/**
 * Boxes on the way: walls, lenders and sharers that every packet goes through and that keep a
 * memory of talks, each a text that is stepped. ../shared/DOC.md says what each call promises; the
 * words in capitals are its terms.
 */
public final class WayBoxes {
    public static final int NONE = -1, BAD = -2, STATE = -3, FULL = -4;

    private static final int NO_LINE = -5, WAITS = -6, OTHER_KIND = -6, FAULTY = -10;
    private static final int NO_CELL = -2147483648;

    private static final int DROPPED = 0, PASSED = 1, BROKEN = 2;

    private static final int TAPE = 160, MOST_TEXTS = 8, MOST_LINES = 8, MOST_ACTS = 5;
    private static final int MOST_TERMS = 4, MOST_OPEN = 5;
    private static final int MOST_BOXES = 8, BOX_KINDS = 7, MOST_IN_ROW = 6, MOST_WAITING = 20;
    private static final int MOST_LETTERS = 5, DEEPEST = 3, MOST_ORDERED = 4, FORMS = 5;
    private static final int TALKS = 16, HOUSES = 4, KINDS = 4, MOST_N = 99, ALL_TALKS = 65535;

    /** Where the CELLS of each letter begin in a MEMORY, and how many there are in all. */
    private static final int DIGITS = 4, S_CELLS = 64, G_CELLS = 80, CELLS = 84;
    private static final int T = 0, S = 1, G = 2, LETTERS = 3;

    /** The signs of a compiled TEXT: a TERM below LETTER_K is that number itself. */
    private static final int LETTER_K = 100, LETTER_H = 101, LETTER_N = 102, CELL_SIGN = 104;
    private static final int LESS = 120, SAME = 121, MORE = 122, NOT = 123, AND = 124, OR = 125;
    private static final int PASS = 126, DROP = 127, BREAK = 128, TAKEN_OFF = 256;
    private static final int ANY_KIND = 4;

    private static final int KEEPS = 0, WORKS = 1, LEADS = 2, ACTS = 3;
    private static final int MOST_KEPT = 20, DEEPEST_BODY = 20;
    /** The KIND above each KIND. */
    private static final int[] ABOVE = {-1, 0, 0, 0, 1, 3, 0};
    /** The bodies that each KIND has for keeps, works and leads (0: none). */
    private static final int[] BODIES = {
        1, 2, 3, 0, 11, 0, 21, 0, 0, 0, 0, 31, 0, 0, 41, 0, 51, 0, 61, 0, 0
    };

    private final State now = new State();
    private final State image = new State();
    private boolean imaged;
    private final Reader reader = new Reader();
    private final Search search = new Search();

    public WayBoxes() {
    }

    // ---- texts

    public int feed(long w, int n) {
        if (n < 1 || n > 8) return BAD;
        if (now.fed + n > TAPE) return FULL;
        for (int left = n - 1; left >= 0; left--) {
            now.tape[now.fed] = (int) (w >>> (8 * left)) & 255;
            now.fed++;
        }
        return now.fed;
    }

    public int text() {
        if (now.textCount >= MOST_TEXTS) return FULL;
        int size = now.fed;
        now.fed = 0;
        Text made = reader.reads(now.tape, size);
        if (made == null) return FAULTY - reader.at;
        now.texts[now.textCount] = made;
        now.textCount++;
        return now.textCount - 1;
    }

    public int lines(int text, int line) {
        Text told = now.textAt(text);
        if (told == null || line < -1 || line >= told.lineCount) return NONE;
        return line == -1 ? told.lineCount : told.actCounts[line];
    }

    public int part(int text, int letter, int digit, int what) {
        Text told = now.textAt(text);
        if (told == null || letter < 0 || letter > 1 || digit < 0 || digit >= DIGITS) return NONE;
        if (what < 0 || what > 1) return NONE;
        int cell = letter * DIGITS + digit;
        if (what == 1) return told.oneAt[cell];
        if (told.oneAt[cell] != NO_LINE) return 2;
        return told.stands >> cell & 1;
    }

    // ---- boxes

    public int box(int kind, int text) {
        if (kind < 0 || kind >= BOX_KINDS || now.textAt(text) == null) return NONE;
        if (now.boxCount >= MOST_BOXES) return FULL;
        now.boxes[now.boxCount].begin(now.boxCount, kind, text);
        now.boxCount++;
        return now.boxCount - 1;
    }

    public int work(int box, int talk, int house, int kind, int n) {
        Box told = now.boxAt(box);
        if (told == null) return NONE;
        int refusal = refusalOf(talk, house, kind, n);
        if (refusal != 0) return refusal;
        return told.steps(new Packet(talk, house, kind, n), now.textAt(told.text));
    }

    public int cell(int box, int letter, int digit, int of) {
        Box told = now.boxAt(box);
        if (told == null || letter < 0 || letter >= LETTERS) return NO_CELL;
        if (digit < 0 || digit >= DIGITS) return NO_CELL;
        if (letter == T && !isTalk(of) || letter == S && (of < 0 || of >= HOUSES)) return NO_CELL;
        return told.memory.at(placeOf(letter * DIGITS + digit, of, of));
    }

    public int latest(int box) {
        Box told = now.boxAt(box);
        return told == null ? NONE : told.latest;
    }

    // ---- rows, doubled, moved

    public int row(int box) {
        if (box == -1) {
            now.rowSize = 0;
            return 0;
        }
        if (now.boxAt(box) == null) return NONE;
        if (now.isLedToByAnother(box)) return STATE;
        if (now.rowSize >= MOST_IN_ROW) return FULL;
        now.row[now.rowSize] = box;
        now.rowSize++;
        return now.rowSize;
    }

    public int send(int talk, int house, int kind, int n) {
        int refusal = refusalOf(talk, house, kind, n);
        if (refusal != 0) return refusal;
        if (now.rowSize == 0) return STATE;
        boolean waits = (now.held & 1 << talk) != 0;
        // Only what would have to wait can find no place to do so.
        if (waits && now.waitCount >= MOST_WAITING) return FULL;
        Packet packet = new Packet(talk, house, kind, n);
        if (!waits) return now.passAlong(packet);
        now.waiting[now.waitCount] = packet;
        now.waitCount++;
        return WAITS;
    }

    public int lead(int box, int to, int talks) {
        Box first = now.boxAt(box);
        Box second = now.boxAt(to);
        if (first == null || second == null) return NONE;
        if (!areTalks(talks)) return BAD;
        if (now.isLedToByAnother(box)) return STATE;
        if (to != box && (now.isInRow(to) || second.ledAway() > 0)) return STATE;
        for (int talk = 0; talk < TALKS; talk++) {
            if ((talks & 1 << talk) == 0) continue;
            Box from = now.boxAt(first.led[talk]);
            if (from != null && from.number != to) second.memory.takeTalk(from.memory, talk);
            first.led[talk] = to;
        }
        return first.ledAway();
    }

    public int led(int box, int talk) {
        Box told = now.boxAt(box);
        return told == null || !isTalk(talk) ? NONE : told.led[talk];
    }

    public int hold(int talks) {
        if (!areTalks(talks)) return BAD;
        now.held |= talks;
        return Integer.bitCount(now.held);
    }

    public int release() {
        if (now.rowSize == 0 && now.waitCount > 0) return STATE;
        int sent = now.waitCount;
        now.held = 0;
        now.waitCount = 0;
        for (int i = 0; i < sent; i++) now.passAlong(now.waiting[i]);
        return sent;
    }

    public int whole(int box, int other, int third) {
        Box first = now.boxAt(box);
        Box second = now.boxAt(other);
        Box alone = now.boxAt(third);
        if (first == null || second == null || alone == null) return NONE;
        if (box == other || box == third || other == third) return BAD;
        for (int talk = 0; talk < TALKS; talk++) {
            Box by = now.boxAt(first.led[talk]);
            if (by != null && !alone.memory.hasTalkOf(by.memory, talk)) return 0;
        }
        return alone.memory.isSumOf(first.memory, second.memory) ? 1 : 0;
    }

    // ---- falls

    public int copy(int box) {
        Box told = now.boxAt(box);
        if (told == null) return NONE;
        told.copied.become(told.memory);
        told.copies++;
        return told.copies - 1;
    }

    public int fall(int box) {
        Box told = now.boxAt(box);
        if (told == null) return NONE;
        int takenUp = 0;
        for (int talk = 0; talk < TALKS; talk++) {
            if (told.memory.hasTalkOf(told.copied, talk)) takenUp |= 1 << talk;
        }
        told.memory.become(told.copied);
        return takenUp;
    }

    // ---- promises

    public int letter(int talk, int house, int kind, int n) {
        int refusal = refusalOf(talk, house, kind, n);
        if (refusal != 0) return refusal;
        if (now.letterCount >= MOST_LETTERS) return FULL;
        now.alphabet[now.letterCount] = new Packet(talk, house, kind, n);
        now.letterCount++;
        return now.letterCount;
    }

    public int shown(int text, int form, int n, int d, int i) {
        Text told = now.textAt(text);
        if (told == null || !isForm(form) || i < -2) return NONE;
        if (!isN(n) || !isDepth(d)) return BAD;
        search.begin(now.alphabet, now.letterCount, form, n);
        search.add(told, NONE);
        int length = search.shortest(d);
        if (i == -1) return length == 0 ? 1 : 0;
        if (i == -2) return length;
        return i < length ? search.row[i] : NONE;
    }

    public int ways(int a, int b, int d, int i) {
        Text one = now.textAt(a);
        Text other = now.textAt(b);
        if (one == null || other == null || i < -1) return NONE;
        if (!isDepth(d)) return BAD;
        search.begin(now.alphabet, now.letterCount, Search.APART, 0);
        search.add(one, NONE);
        search.add(other, NONE);
        int length = search.shortest(d);
        if (i == -1) return length;
        return i < length ? search.row[i] : NONE;
    }

    public int orders(int boxes, int form, int n, int d, int i) {
        if (!isForm(form) || i < -1) return NONE;
        int told = Integer.bitCount(boxes);
        // An unsigned shift, so that a negative number names BOXES that are not there.
        if (boxes >>> now.boxCount != 0 || told < 2 || told > MOST_ORDERED) return BAD;
        if (!isN(n) || !isDepth(d)) return BAD;
        search.begin(now.alphabet, now.letterCount, form, n);
        for (int box = 0; box < now.boxCount; box++) {
            if ((boxes & 1 << box) != 0) search.add(now.textAt(now.boxes[box].text), box);
        }
        int keep = 0;
        boolean more = true;
        for (int order = 0; order < 24 && more; order++) {
            if (search.shortest(d) == 0) {
                if (i >= 0) return i < told ? search.boxes[i] : NONE;
                keep++;
            }
            more = search.turnsToNextOrder();
        }
        return i == -1 ? keep : NONE;
    }

    // ---- acts, the image

    public int act(int box, int act, int x) {
        Box told = now.boxAt(box);
        Text text = told == null ? null : now.textAt(told.text);
        now.trace.ran = 0;
        if (text == null || act < 0 || act >= ACTS) return 0;
        return now.trace.runs(told, text.lineCount, act, x);
    }

    public int trace(int i) {
        return i < 0 || i >= now.trace.ran || i >= MOST_KEPT ? NONE : now.trace.kept[i];
    }

    public int as(int box, int k) {
        Box told = now.boxAt(box);
        if (told == null || k < 0 || k >= BOX_KINDS) return NONE;
        int kind = told.kind;
        // A KIND has at most two above it.
        for (int up = 0; up < BOX_KINDS && kind > 0 && kind != k; up++) kind = ABOVE[kind];
        return kind == k ? told.text : OTHER_KIND;
    }

    public int image() {
        image.become(now);
        imaged = true;
        return now.boxCount;
    }

    public int undo() {
        if (!imaged) return STATE;
        now.become(image);
        return now.boxCount;
    }

    public int count(int what) {
        switch (what) {
            case 0: return now.textCount;
            case 1: return now.boxCount;
            case 2: return now.rowSize;
            case 3: return now.waitCount;
            case 4: return now.held;
            case 5: return now.letterCount;
            case 6: return now.fed;
            case 7: return now.trace.ran;
            default: return NONE;
        }
    }

    // ---- what a number may be

    /** NONE or BAD if the numbers are no packet's, 0 if they are. */
    private static int refusalOf(int talk, int house, int kind, int n) {
        if (!isTalk(talk) || house < 0 || house >= HOUSES || kind < 0 || kind >= KINDS) return NONE;
        return isN(n) ? 0 : BAD;
    }

    private static boolean isTalk(int talk) {
        return talk >= 0 && talk < TALKS;
    }

    private static boolean areTalks(int bits) {
        return bits >= 0 && bits <= ALL_TALKS;
    }

    private static boolean isN(int n) {
        return n >= 0 && n <= MOST_N;
    }

    private static boolean isForm(int form) {
        return form >= 0 && form < FORMS;
    }

    private static boolean isDepth(int d) {
        return d >= 1 && d <= DEEPEST;
    }

    /** Where a CELL (t0 to t3, s0 to s3, g0 to g3: 0 to 11) of a talk or a house stands in a MEMORY. */
    private static int placeOf(int cell, int talk, int house) {
        if (cell < S * DIGITS) return talk * DIGITS + cell;
        if (cell < G * DIGITS) return S_CELLS + house * DIGITS + cell - S * DIGITS;
        return G_CELLS + cell - G * DIGITS;
    }

    /** A packet, with numbers that have been looked at. */
    private static final class Packet {
        final int talk, house, kind, n;

        Packet(int talk, int house, int kind, int n) {
            this.talk = talk;
            this.house = house;
            this.kind = kind;
            this.n = n;
        }
    }

    /** A MEMORY: t's of each TALK, s's of each HOUSE, g's, one behind the other. */
    private static final class Memory {
        final int[] cells = new int[CELLS];

        void clear() {
            Arrays.fill(cells, 0);
        }

        void become(Memory other) {
            System.arraycopy(other.cells, 0, cells, 0, CELLS);
        }

        int at(int place) {
            return place >= 0 && place < CELLS ? cells[place] : 0;
        }

        void put(int place, int value) {
            if (place >= 0 && place < CELLS) cells[place] = value;
        }

        void forgetTalk(int talk) {
            for (int digit = 0; digit < DIGITS; digit++) put(talk * DIGITS + digit, 0);
        }

        void takeTalk(Memory from, int talk) {
            for (int digit = 0; digit < DIGITS; digit++) {
                put(talk * DIGITS + digit, from.at(talk * DIGITS + digit));
            }
            from.forgetTalk(talk);
        }

        boolean hasTalkOf(Memory other, int talk) {
            for (int digit = 0; digit < DIGITS; digit++) {
                if (at(talk * DIGITS + digit) != other.at(talk * DIGITS + digit)) return false;
            }
            return true;
        }

        /** Whether each s and g is what those of two others make together. */
        boolean isSumOf(Memory one, Memory other) {
            for (int place = S_CELLS; place < CELLS; place++) {
                if (cells[place] != one.cells[place] + other.cells[place]) return false;
            }
            return true;
        }
    }

    /**
     * A TEXT as signs. The E of a line stands behind the things that it joins (test, test, AND), so
     * that it can be worked off without a tree; an ACT is PASS, DROP or BREAK, or the sign of a
     * CELL, how many TERMS the SUM has, and these.
     */
    private static final class Text {
        int lineCount;
        final int[] kinds = new int[MOST_LINES];
        final int[] tests = new int[MOST_LINES];
        final int[] acts = new int[MOST_LINES];
        final int[] actCounts = new int[MOST_LINES];
        final int[] signs = new int[TAPE];
        int size;
        /** Of s0 to s3 and g0 to g3: which stand anywhere (bits), and the LINE that makes each ONE. */
        int stands;
        final int[] oneAt = new int[2 * DIGITS];

        void clear() {
            lineCount = 0;
            size = 0;
            stands = 0;
            Arrays.fill(oneAt, NO_LINE);
        }

        void add(int sign) {
            if (size >= TAPE) return;
            signs[size] = sign;
            size++;
        }

        /** How many TERMS a SUM has stands ahead of them, at a place that was kept for it. */
        void countTerms(int place, int terms) {
            if (place >= 0 && place < size) signs[place] = terms;
        }

        int signAt(int at) {
            return at >= 0 && at < size ? signs[at] : 0;
        }

        /** A TERM stands in the line that is being read; inSum: as a SUM's own first TERM. */
        void note(int term, boolean inSum) {
            int cell = term - CELL_SIGN - S * DIGITS;
            if (cell < 0 || cell >= 2 * DIGITS) return;
            stands |= 1 << cell;
            if (!inSum && oneAt[cell] == NO_LINE) oneAt[cell] = lineCount - 1;
        }

        /** The first LINE that is for a packet, or NO_LINE. */
        int lineFor(Packet packet, Memory memory) {
            for (int line = 0; line < lineCount; line++) {
                boolean meant = kinds[line] == ANY_KIND || kinds[line] == packet.kind;
                if (meant && holds(line, packet, memory)) return line;
            }
            return NO_LINE;
        }

        /** Whether a line's E holds; what is known so far is a stack in the bits of truths. */
        private boolean holds(int line, Packet packet, Memory memory) {
            int truths = 1;
            int at = tests[line];
            while (at < acts[line]) {
                int sign = signAt(at);
                at++;
                if (sign == NOT) {
                    truths ^= 1;
                } else if (sign == AND) {
                    truths = (truths & 1) == 1 ? truths >> 1 : truths >> 1 & ~1;
                } else if (sign == OR) {
                    truths = (truths & 1) == 1 ? truths >> 1 | 1 : truths >> 1;
                } else {
                    int left = value(signAt(at), packet, memory);
                    int right = value(signAt(at + 1), packet, memory);
                    boolean so = sign == LESS ? left < right : sign == SAME ? left == right : left > right;
                    truths = truths << 1 | (so ? 1 : 0);
                    at += 2;
                }
            }
            return (truths & 1) == 1;
        }

        /** Does the ACTS of a LINE: how the packet ends. */
        int does(int line, Packet packet, Memory memory) {
            if (line < 0 || line >= lineCount) return PASSED;
            int at = acts[line];
            for (int act = 0; act < actCounts[line]; act++) {
                int sign = signAt(at);
                if (sign == PASS) return PASSED;
                if (sign == DROP) return DROPPED;
                if (sign == BREAK) {
                    memory.forgetTalk(packet.talk);
                    return BROKEN;
                }
                int terms = signAt(at + 1);
                int sum = sumOf(at + 2, terms, packet, memory);
                memory.put(placeOf(sign - CELL_SIGN, packet.talk, packet.house), sum);
                at += 2 + terms;
            }
            return PASSED;
        }

        private int sumOf(int from, int terms, Packet packet, Memory memory) {
            int sum = 0;
            for (int at = from; at < from + terms; at++) {
                int sign = signAt(at);
                if (sign >= TAKEN_OFF) sum -= value(sign - TAKEN_OFF, packet, memory);
                else sum += value(sign, packet, memory);
            }
            return sum;
        }

        private static int value(int term, Packet packet, Memory memory) {
            if (term < LETTER_K) return term;
            if (term == LETTER_K) return packet.kind;
            if (term == LETTER_H) return packet.house;
            if (term == LETTER_N) return packet.n;
            return memory.at(placeOf(term - CELL_SIGN, packet.talk, packet.house));
        }
    }

    /**
     * Reads a TEXT from the left on, never back: where a byte is looked at and not taken, no TEXT
     * can go on with it, so that a FAULT is always the place at which the reading stopped.
     */
    private static final class Reader {
        private int[] tape;
        private int size;
        private int at;
        private Text text;

        /** The TEXT on a tape, or null (and at is the FAULT). */
        Text reads(int[] told, int length) {
            tape = told;
            size = length;
            at = 0;
            // What a FAULT left half made is used again: many a TAPE holds no TEXT.
            if (text == null) text = new Text();
            text.clear();
            for (int line = 0; line < MOST_LINES; line++) {
                if (!readsKind(line)) return null;
                if (takes('(') && !(readsE(1) && takes(')'))) return null;
                text.acts[line] = text.size;
                if (!takes(':') || !readsActs(line)) return null;
                if (at == size) return handsOver();
                if (line == MOST_LINES - 1 || !takes(';')) return null;
            }
            return null;
        }

        private Text handsOver() {
            Text made = text;
            text = null;
            return made;
        }

        private boolean readsKind(int line) {
            int kind = takes('*') ? ANY_KIND : takesDigit(KINDS - 1);
            if (kind < 0) return false;
            text.lineCount = line + 1;
            text.kinds[line] = kind;
            text.tests[line] = text.size;
            return true;
        }

        /** E, with so many of ! and ( open around it. */
        private boolean readsE(int open) {
            if (!readsT(open)) return false;
            while (at < size && takes('|')) {
                if (!readsT(open)) return false;
                text.add(OR);
            }
            return true;
        }

        private boolean readsT(int open) {
            if (!readsF(open)) return false;
            while (at < size && takes('&')) {
                if (!readsF(open)) return false;
                text.add(AND);
            }
            return true;
        }

        /** F, with the !'s ahead of it: each of them is open till F ends. */
        private boolean readsF(int open) {
            int within = open;
            while (within < MOST_OPEN && takes('!')) within++;
            if (next() == '(') {
                if (within >= MOST_OPEN) return false;
                at++;
                if (!readsE(within + 1) || !takes(')')) return false;
            } else if (!readsTest()) {
                return false;
            }
            for (int not = open; not < within; not++) text.add(NOT);
            return true;
        }

        private boolean readsTest() {
            int left = term();
            if (left < 0) return false;
            int sign = takes('<') ? LESS : takes('=') ? SAME : takes('>') ? MORE : -1;
            if (sign < 0) return false;
            int right = term();
            if (right < 0) return false;
            text.add(sign);
            text.add(left);
            text.add(right);
            text.note(left, false);
            text.note(right, false);
            return true;
        }

        private boolean readsActs(int line) {
            for (int act = 0; act < MOST_ACTS; act++) {
                if (!readsAct()) return false;
                text.actCounts[line] = act + 1;
                if (next() != ',') return true;
                if (act < MOST_ACTS - 1) at++;
            }
            return false;
        }

        private boolean readsAct() {
            int end = takes('p') ? PASS : takes('d') ? DROP : takes('b') ? BREAK : -1;
            if (end >= 0) {
                text.add(end);
                return true;
            }
            if (next() != 't' && next() != 's' && next() != 'g') return false;
            int cell = term();
            if (cell < 0 || !takes('=')) return false;
            text.add(cell);
            return readsSum(cell);
        }

        /** The SUM that a CELL becomes. */
        private boolean readsSum(int cell) {
            int countAt = text.size;
            int taken = 0;
            text.add(0);
            for (int terms = 1; terms <= MOST_TERMS; terms++) {
                int term = term();
                if (term < 0) return false;
                boolean itself = terms == 1 && term == cell;
                text.add(term + taken);
                text.note(term, itself);
                if (terms == 1) text.note(cell, itself);
                text.countTerms(countAt, terms);
                if (next() != '+' && next() != '-') return true;
                taken = next() == '-' ? TAKEN_OFF : 0;
                if (terms < MOST_TERMS) at++;
            }
            return false;
        }

        /** A TERM's sign; -1 if none stands here, and at is the FAULT then. */
        private int term() {
            if (takes('k')) return LETTER_K;
            if (takes('h')) return LETTER_H;
            if (takes('n')) return LETTER_N;
            int letter = takes('t') ? T : takes('s') ? S : takes('g') ? G : -1;
            if (letter >= 0) {
                int digit = takesDigit(DIGITS - 1);
                return digit < 0 ? -1 : CELL_SIGN + letter * DIGITS + digit;
            }
            int first = takesDigit(9);
            if (first <= 0) return first;
            int second = takesDigit(9);
            return second < 0 ? first : first * 10 + second;
        }

        /** The digit that comes next, if it is 0 to most; else -1. */
        private int takesDigit(int most) {
            int digit = at < size ? tape[at] - '0' : -1;
            if (digit < 0 || digit > most) return -1;
            at++;
            return digit;
        }

        /** The byte that comes next; -1 at the end. */
        private int next() {
            return at < size ? tape[at] : -1;
        }

        private boolean takes(int sign) {
            if (at >= size || tape[at] != sign) return false;
            at++;
            return true;
        }
    }

    /** A BOX: what it is, what it keeps, and its latest COPY. */
    private static final class Box {
        int number, kind, text;
        int latest, copies;
        final int[] led = new int[TALKS];
        final Memory memory = new Memory();
        /** All 0 till there is a COPY, so that a FALL without one needs no case of its own. */
        final Memory copied = new Memory();

        void begin(int itsNumber, int itsKind, int itsText) {
            number = itsNumber;
            kind = itsKind;
            text = itsText;
            latest = NO_LINE;
            copies = 0;
            Arrays.fill(led, itsNumber);
            memory.clear();
            copied.clear();
        }

        void become(Box other) {
            number = other.number;
            kind = other.kind;
            text = other.text;
            latest = other.latest;
            copies = other.copies;
            System.arraycopy(other.led, 0, led, 0, TALKS);
            memory.become(other.memory);
            copied.become(other.copied);
        }

        /** Works a packet itself, whatever it leads. */
        int steps(Packet packet, Text its) {
            if (packet == null || its == null) return PASSED;
            latest = its.lineFor(packet, memory);
            return its.does(latest, packet, memory);
        }

        int ledAway() {
            int away = 0;
            for (int talk = 0; talk < TALKS; talk++) {
                if (led[talk] != number) away++;
            }
            return away;
        }

        boolean leadsTo(int box) {
            for (int talk = 0; talk < TALKS; talk++) {
                if (led[talk] == box) return true;
            }
            return false;
        }
    }

    /** THE TRACE, and the bodies that write it. */
    private static final class Trace {
        final int[] kept = new int[MOST_KEPT];
        int ran;
        /** Of the BOX whose ACT runs. */
        private int ownKind, number, lineCount;

        void become(Trace other) {
            System.arraycopy(other.kept, 0, kept, 0, MOST_KEPT);
            ran = other.ran;
        }

        int runs(Box box, int lines, int act, int x) {
            ownKind = box.kind;
            number = box.number;
            lineCount = lines;
            return runsFrom(ownKind, act, x, 0);
        }

        /** Runs the body for an act that a KIND has, or the next one above it that has one. */
        private int runsFrom(int from, int act, int x, int depth) {
            if (from < 0 || from >= BOX_KINDS || depth > DEEPEST_BODY) return 0;
            int kind = from;
            for (int up = 0; up < BOX_KINDS && kind > 0; up++) {
                if (BODIES[kind * ACTS + act] != 0) break;
                kind = ABOVE[kind];
            }
            int body = BODIES[kind * ACTS + act];
            if (ran < MOST_KEPT) kept[ran] = body;
            ran++;
            return answerOf(body, ABOVE[kind], x, depth + 1);
        }

        /** What a body answers that stands in the KIND under the one told as above. */
        private int answerOf(int body, int above, int x, int depth) {
            switch (body) {
                case 1: return x + number;
                case 2: return runsFrom(ownKind, KEEPS, x, depth) - lineCount;
                case 3: return runsFrom(ownKind, WORKS, x, depth) * 2;
                case 11: return runsFrom(above, WORKS, x * 3, depth);
                case 21: return -runsFrom(above, KEEPS, x, depth);
                case 31: return runsFrom(above, LEADS, x, depth) ^ 5;
                case 41: return runsFrom(above, LEADS, x - 1, depth) + runsFrom(ownKind, KEEPS, 2, depth);
                case 51: return runsFrom(above, WORKS, x, depth) + number;
                case 61: return runsFrom(above, KEEPS, x + 1, depth) ^ 9;
                default: return 0;
            }
        }
    }

    /** What a row of packets has shown of the PROMISES so far. */
    private static final class Watch {
        /** TALKS, as bits: with a passed KIND 0, OPEN, BROKEN. */
        private int begun, open, broken;
        /** Of each TALK: HOUSE and N of the packet that opened it last, and how many passed. */
        private final int[] houses = new int[TALKS];
        private final int[] numbers = new int[TALKS];
        private final int[] passed = new int[TALKS];

        void become(Watch other) {
            begun = other.begun;
            open = other.open;
            broken = other.broken;
            System.arraycopy(other.houses, 0, houses, 0, TALKS);
            System.arraycopy(other.numbers, 0, numbers, 0, TALKS);
            System.arraycopy(other.passed, 0, passed, 0, TALKS);
        }

        /** A packet ended so: whether it breaks the PROMISE of a form. */
        boolean sees(Packet packet, int how, int form, int n) {
            int bit = 1 << packet.talk;
            if (how == BROKEN) broken |= bit;
            if (how != PASSED) return false;
            passed[packet.talk]++;
            if (packet.kind == 0) {
                begun |= bit;
                open |= bit;
                houses[packet.talk] = packet.house;
                numbers[packet.talk] = packet.n;
            }
            if (packet.kind == 2) open &= ~bit;
            switch (form) {
                case 0: return packet.kind == 1 && (begun & bit) == 0;
                case 1: return opensMany(packet.house, n);
                case 2: return passed[packet.talk] > n;
                case 3: return isTwice(packet.talk);
                default: return (broken & bit) != 0;
            }
        }

        private boolean opensMany(int house, int n) {
            int many = 0;
            for (int talk = 0; talk < TALKS; talk++) {
                if ((open & 1 << talk) != 0 && houses[talk] == house) many++;
            }
            return many > n;
        }

        /** Whether an OPEN TALK's N is another OPEN one's, too. */
        private boolean isTwice(int talk) {
            if ((open & 1 << talk) == 0) return false;
            for (int other = 0; other < TALKS; other++) {
                boolean isOpen = other != talk && (open & 1 << other) != 0;
                if (isOpen && numbers[other] == numbers[talk]) return true;
            }
            return false;
        }
    }

    /** Goes through the rows of THE ALPHABET, the shorter ones first, then by places. */
    private static final class Search {
        /** In place of a form: two TEXTS side by side, not one behind the other. */
        static final int APART = -1;

        /**
         * Of each length of a row a stage of its own, so that a row goes on from its beginning's;
         * that of length 0 is only read, and stays empty.
         */
        private final Memory[] memories = new Memory[(DEEPEST + 1) * MOST_ORDERED];
        private final Watch[] watches = new Watch[DEEPEST + 1];
        private final Text[] texts = new Text[MOST_ORDERED];
        final int[] boxes = new int[MOST_ORDERED];
        private int textCount;
        private Packet[] letters;
        private int letterCount;
        private int form, n;
        /** The row that was found last. */
        final int[] row = new int[DEEPEST];

        Search() {
            for (int i = 0; i < memories.length; i++) memories[i] = new Memory();
            for (int i = 0; i < watches.length; i++) watches[i] = new Watch();
        }

        void begin(Packet[] alphabet, int size, int itsForm, int itsN) {
            letters = alphabet;
            letterCount = size;
            form = itsForm;
            n = itsN;
            textCount = 0;
        }

        void add(Text text, int box) {
            if (textCount >= MOST_ORDERED || text == null) return;
            texts[textCount] = text;
            boxes[textCount] = box;
            textCount++;
        }

        /** How long the shortest row of 1 to d packets is that is looked for; 0: there is none. */
        int shortest(int d) {
            for (int length = 1; length <= d && length <= DEEPEST; length++) {
                if (finds(this, 0, length)) return length;
            }
            return 0;
        }

        /**
         * Whether the row's first places (so many) can go on to a row of a length that is looked for.
         * Static, since LANGUAGE.md lets only a static method call itself.
         */
        private static boolean finds(Search its, int many, int length) {
            if (many < 0 || many >= length || length > DEEPEST) return false;
            for (int place = 0; place < its.letterCount; place++) {
                Packet packet = its.letters[place];
                if (packet == null) continue;
                its.row[many] = place;
                boolean hit = its.form == APART ? its.partsWays(many, packet) : its.breaks(many, packet);
                if (many + 1 == length ? hit : finds(its, many + 1, length)) return true;
            }
            return false;
        }

        private boolean breaks(int many, Packet packet) {
            int how = PASSED;
            for (int i = 0; i < textCount; i++) {
                Memory memory = carried(many, i);
                if (how != PASSED) continue;
                how = texts[i].does(texts[i].lineFor(packet, memory), packet, memory);
            }
            watches[many + 1].become(watches[many]);
            return watches[many + 1].sees(packet, how, form, n);
        }

        private boolean partsWays(int many, Packet packet) {
            int first = PASSED;
            boolean same = true;
            for (int i = 0; i < textCount; i++) {
                Memory memory = carried(many, i);
                int how = texts[i].does(texts[i].lineFor(packet, memory), packet, memory);
                if (i == 0) first = how;
                same = same && how == first;
            }
            return !same;
        }

        /** A TEXT's MEMORY for the next stage, as it was in this one. */
        private Memory carried(int stage, int i) {
            Memory next = memories[(stage + 1) * MOST_ORDERED + i];
            next.become(memories[stage * MOST_ORDERED + i]);
            return next;
        }

        /** Puts the BOXES in their next order (by numbers); false if this was the last one. */
        boolean turnsToNextOrder() {
            int turn = textCount - 2;
            while (turn >= 0 && boxes[turn] > boxes[turn + 1]) turn--;
            if (turn < 0) return false;
            int next = textCount - 1;
            while (next > turn && boxes[next] < boxes[turn]) next--;
            swap(turn, next);
            for (int i = turn + 1, j = textCount - 1; i < j; i++, j--) swap(i, j);
            return true;
        }

        private void swap(int i, int j) {
            int box = boxes[i];
            boxes[i] = boxes[j];
            boxes[j] = box;
            Text text = texts[i];
            texts[i] = texts[j];
            texts[j] = text;
        }
    }

    /** All that there is; THE IMAGE is another one of these. */
    private static final class State {
        final int[] tape = new int[TAPE];
        int fed;
        final Text[] texts = new Text[MOST_TEXTS];
        int textCount;
        final Box[] boxes = new Box[MOST_BOXES];
        int boxCount;
        final int[] row = new int[MOST_IN_ROW];
        int rowSize;
        final Packet[] waiting = new Packet[MOST_WAITING];
        int waitCount;
        int held;
        final Packet[] alphabet = new Packet[MOST_LETTERS];
        int letterCount;
        final Trace trace = new Trace();

        State() {
            for (int i = 0; i < MOST_BOXES; i++) boxes[i] = new Box();
        }

        void become(State other) {
            System.arraycopy(other.tape, 0, tape, 0, TAPE);
            fed = other.fed;
            // TEXTS and packets never change once they are made, so both states may hold them.
            for (int i = 0; i < MOST_TEXTS; i++) texts[i] = other.texts[i];
            textCount = other.textCount;
            for (int i = 0; i < MOST_BOXES; i++) boxes[i].become(other.boxes[i]);
            boxCount = other.boxCount;
            System.arraycopy(other.row, 0, row, 0, MOST_IN_ROW);
            rowSize = other.rowSize;
            for (int i = 0; i < MOST_WAITING; i++) waiting[i] = other.waiting[i];
            waitCount = other.waitCount;
            held = other.held;
            for (int i = 0; i < MOST_LETTERS; i++) alphabet[i] = other.alphabet[i];
            letterCount = other.letterCount;
            trace.become(other.trace);
        }

        /** A TEXT, or null. */
        Text textAt(int text) {
            return text >= 0 && text < textCount ? texts[text] : null;
        }

        /** A BOX, or null. */
        Box boxAt(int box) {
            return box >= 0 && box < boxCount ? boxes[box] : null;
        }

        boolean isInRow(int box) {
            for (int place = 0; place < rowSize; place++) {
                if (row[place] == box) return true;
            }
            return false;
        }

        boolean isLedToByAnother(int box) {
            for (int other = 0; other < boxCount; other++) {
                if (other != box && boxes[other].leadsTo(box)) return true;
            }
            return false;
        }

        /** Sends a packet along THE ROW: where it ended, and how. */
        int passAlong(Packet packet) {
            if (packet == null) return STATE;
            for (int place = 0; place < rowSize; place++) {
                Box stands = boxAt(row[place]);
                Box works = stands == null ? null : boxAt(stands.led[packet.talk]);
                if (works == null) continue;
                int how = works.steps(packet, textAt(works.text));
                if (how != PASSED) return 10 * place + how;
            }
            return 10 * rowSize + PASSED;
        }
    }
}
