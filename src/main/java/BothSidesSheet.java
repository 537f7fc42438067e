import java.util.Arrays;

/** A copier that prints on both sides of one sheet: ../shared/DOC.md says what each call does. */
public final class BothSidesSheet {
    public static final int NONE = -1, BAD = -2, STATE = -3, FULL = -4;
    public static final long NO = Long.MIN_VALUE;

    private static final int NOWHERE = -5, FAULTY = -10;
    private static final int NOTHING = -11, CAST = -12, PLACE = -13, SIZE = -14;

    private static final int SHEETS = 12, TRAYS = 5, JOBS = 6, WAYS = 4;
    private static final int PAGES = 60, SPOILED = 99, FIRST_PAGE = 1, LAST_PAGE = 24;
    private static final int TOP_V = 9, PARTS = 4, TOP_RAN = 9999;
    private static final int SEEN = 5, PLANNED = 6, BOOKED = 8;
    private static final int AFTER_UPPER = 10, AFTER_LOWER = 30;

    private static final int PLAIN = 0, FLIPPING = 1, TURNING = 2, DAMP = 3;
    private static final int REVERSING = 4, CURLED = 5, TOLD = 6;
    private static final int[] KIND_ABOVE = {-1, PLAIN, PLAIN, PLAIN, FLIPPING, TURNING, DAMP};

    private static final int DO_RUN = 0, DO_WAY = 1, DO_LOAD = 2;

    private static final int TEXT = 100, LAST_SIGN = 127, CLAUSES = 10, NESTED = 4;
    private static final int WORDS = 4, WORD = 4, FROM = 0, TILL = 1, SKIP = 2;
    private static final String ALL_WORDS = "fromtillskipturn";
    private static final String LETTERS = "potkvn", RELATIONS = "<=>";
    private static final int NOT = -1, AND = -2, OR = -3;
    private static final int NUMBERS = 100, RELATED = 3;

    private static final int KEPT = 20, DEEPEST = 20;

    private static final int TAPES = 6, ITEMS = 60;
    private static final int NO_ROW = -1, BYTES = 0, SHORTS = 1, INTS = 2, BOOLEANS = 4;
    private static final int ROW_ENDS = 100;

    /**
     * Sheets from the top on. A side is its page, and DOWN more if it is head down; a sheet is
     * one number, its upper side in the low bits, its lower side in the high ones.
     */
    private static final class Pile {
        static final int SIDE_BITS = 8, SIDE = 255, PAGE = 127, DOWN = 128;

        final int[] sheets = new int[SHEETS];
        int size;

        void copyFrom(Pile other) {
            System.arraycopy(other.sheets, 0, sheets, 0, SHEETS);
            size = other.size;
        }

        static int over(int sheet) {
            return sheet >> SIDE_BITS | (sheet & SIDE) << SIDE_BITS;
        }

        static int about(int sheet) {
            return sheet ^ (DOWN << SIDE_BITS | DOWN);
        }

        int sideOf(int place, int side) {
            return sheets[place] >> side * SIDE_BITS & SIDE;
        }

        /** What is on a side; 0 for a sheet that there is not. */
        int pageOn(int place, int side) {
            return place < 0 || place >= size ? 0 : sideOf(place, side) & PAGE;
        }

        boolean isDown(int place, int side) {
            return (sideOf(place, side) & DOWN) != 0;
        }

        /** A side in full tells the page and that it is not head down at once. */
        boolean isRight(int place) {
            return sideOf(place, 0) == 2 * place + 1 && sideOf(place, 1) == 2 * place + 2;
        }

        int rights() {
            int found = 0;
            for (int i = 0; i < size; i++) {
                if (isRight(i)) {
                    found++;
                }
            }
            return found;
        }

        int sidesWith(int page) {
            int found = 0;
            for (int i = 0; i < size; i++) {
                found += pageOn(i, 0) == page ? 1 : 0;
                found += pageOn(i, 1) == page ? 1 : 0;
            }
            return found;
        }

        int missing() {
            int bits = 0;
            for (int page = FIRST_PAGE; page <= LAST_PAGE; page++) {
                if (sidesWith(page) == 0) {
                    bits |= 1 << (page - FIRST_PAGE);
                }
            }
            return bits;
        }

        int whereIs(int page) {
            for (int i = 0; i < size; i++) {
                for (int side = 0; side < 2; side++) {
                    if (pageOn(i, side) == page) {
                        return 10 * i + side;
                    }
                }
            }
            return NOWHERE;
        }

        /** Blank sheets come on top, as many as there is room for. */
        void putBlank(int n) {
            int more = Math.min(n, SHEETS - size);
            for (int i = size - 1; i >= 0; i--) {
                sheets[i + more] = sheets[i];
            }
            for (int i = 0; i < more; i++) {
                sheets[i] = 0;
            }
            size += more;
        }

        void doWay(int way) {
            if ((way & 1) != 0) {
                turnWhole();
            }
            if ((way & 2) != 0) {
                for (int i = 0; i < size; i++) {
                    sheets[i] = about(sheets[i]);
                }
            }
        }

        private void turnWhole() {
            for (int top = 0, low = size - 1; top <= low; top++, low--) {
                int sheet = over(sheets[top]);
                sheets[top] = over(sheets[low]);
                sheets[low] = sheet;
            }
        }

        /** The number of the first note by which a side is otherwise. */
        int firstOtherwise(Notes notes) {
            for (int i = 0; i < notes.size; i++) {
                if (pageOn(notes.first[i], notes.second[i]) != notes.third[i]) {
                    return i;
                }
            }
            return NOWHERE;
        }
    }

    /** Rows of three numbers told by hand: what is seen, a plan, a book. */
    private static final class Notes {
        final int[] first, second, third;
        int size;

        Notes(int limit) {
            first = new int[limit];
            second = new int[limit];
            third = new int[limit];
        }

        boolean isFull() {
            return size >= first.length;
        }

        /** How many there are, with this one. */
        int add(int a, int b, int c) {
            if (!isFull()) {
                first[size] = a;
                second[size] = b;
                third[size] = c;
                size++;
            }
            return size;
        }

        void copyFrom(Notes other) {
            for (int i = 0; i < other.size && i < first.length; i++) {
                first[i] = other.first[i];
                second[i] = other.second[i];
                third[i] = other.third[i];
            }
            size = other.size;
        }
    }

    private static final class Tray {
        int kind, v, ran;
        final int[] parts = new int[PARTS];

        void begin(int ofKind, int withV) {
            kind = ofKind;
            v = withV;
            ran = 0;
            Arrays.fill(parts, 0);
        }

        void copyFrom(Tray other) {
            kind = other.kind;
            v = other.v;
            ran = other.ran;
            System.arraycopy(other.parts, 0, parts, 0, PARTS);
        }
    }

    /** All that an image holds. */
    private static final class Room {
        final Pile stack = new Pile();
        final Tray[] trays = new Tray[TRAYS];
        int trayCount;
        final Notes seen = new Notes(SEEN);
        final Notes planned = new Notes(PLANNED);
        final Notes booked = new Notes(BOOKED);

        Room() {
            for (int i = 0; i < TRAYS; i++) {
                trays[i] = new Tray();
            }
        }

        void copyFrom(Room other) {
            stack.copyFrom(other.stack);
            for (int i = 0; i < TRAYS; i++) {
                trays[i].copyFrom(other.trays[i]);
            }
            trayCount = other.trayCount;
            seen.copyFrom(other.seen);
            planned.copyFrom(other.planned);
            booked.copyFrom(other.booked);
        }
    }

    /** A job as read. What is skipped and what is turned are steps, operands ahead of NOT, AND, OR. */
    private static final class Job {
        final int from, till;
        final int[] skipped, turned;

        Job(int from, int till, int[] skipped, int[] turned) {
            this.from = from;
            this.till = till;
            this.skipped = skipped;
            this.turned = turned;
        }

        /** The first page from here on that is not skipped; above till if there is none. */
        int pageFrom(int page, int kind, int v, int n) {
            for (int p = page; p <= till; p++) {
                if (!holds(skipped, p, kind, v, n)) {
                    return p;
                }
            }
            return till + 1;
        }

        /**
         * Whether the steps hold. The bits of one number are the answers that still wait, the
         * latest lowest; nesting is so low that 32 are more than enough. No steps: they don't.
         */
        static boolean holds(int[] steps, int page, int kind, int v, int n) {
            int waiting = 0;
            for (int i = 0; i < steps.length; i++) {
                int step = steps[i];
                int latest = waiting & 1;
                if (step == NOT) {
                    waiting ^= 1;
                } else if (step == AND) {
                    waiting = waiting >> 1 & (latest | ~1);
                } else if (step == OR) {
                    waiting = waiting >> 1 | latest;
                } else {
                    int left = value(step / (NUMBERS * RELATED), page, kind, v, n);
                    waiting = waiting << 1 | (isSo(left, step) ? 1 : 0);
                }
            }
            return (waiting & 1) != 0;
        }

        private static int value(int letter, int page, int kind, int v, int n) {
            switch (letter) {
                case 0: return page;
                case 1: return page % 2;
                case 2: return page % 10;
                case 3: return kind;
                case 4: return v;
                default: return n;
            }
        }

        private static boolean isSo(int left, int step) {
            int right = step % NUMBERS;
            switch (step / NUMBERS % RELATED) {
                case 0: return left < right;
                case 1: return left == right;
                default: return left > right;
            }
        }
    }

    /** Steps as they are read; a byte of the text makes one at most. */
    private static final class Steps {
        final int[] steps = new int[TEXT];
        int size;

        void add(int step) {
            if (size < TEXT) {
                steps[size] = step;
                size++;
            }
        }
    }

    /** The text, and how it is read. What reads answers whether it could; if not, at is the fault. */
    private static final class Reader {
        final int[] text = new int[TEXT];
        int size;
        private int at;
        private int from, till;
        private final Steps skips = new Steps(), turns = new Steps();
        private Steps into = skips;

        int fault() {
            return at;
        }

        Job made() {
            return new Job(from, till, Arrays.copyOf(skips.steps, skips.size),
                    Arrays.copyOf(turns.steps, turns.size));
        }

        boolean clauses() {
            at = 0;
            from = FIRST_PAGE;
            till = LAST_PAGE;
            skips.size = 0;
            turns.size = 0;
            for (int left = CLAUSES - 1; left >= 0; left--) {
                if (!clause()) {
                    return false;
                }
                if (at >= size) {
                    return true;
                }
                if (left == 0 || sign() != ';') {
                    return false;
                }
                at++;
            }
            return false;
        }

        private boolean clause() {
            int word = word();
            if (word < 0 || sign() != ' ') {
                return false;
            }
            at++;
            if (word == FROM || word == TILL) {
                return bound(word);
            }
            into = word == SKIP ? skips : turns;
            boolean more = into.size > 0;
            if (!anyOf(0)) {
                return false;
            }
            if (more) {
                into.add(OR);
            }
            return true;
        }

        private boolean bound(int word) {
            int n = number();
            if (n < 0) {
                return false;
            }
            if (word == FROM) {
                from = Math.max(n, FIRST_PAGE);
            } else {
                till = Math.min(n, LAST_PAGE);
            }
            return true;
        }

        private boolean anyOf(int depth) {
            if (!allOf(depth)) {
                return false;
            }
            while (at < size && text[at] == '|') {
                at++;
                if (!allOf(depth)) {
                    return false;
                }
                into.add(OR);
            }
            return true;
        }

        private boolean allOf(int depth) {
            if (!one(depth)) {
                return false;
            }
            while (at < size && text[at] == '&') {
                at++;
                if (!one(depth)) {
                    return false;
                }
                into.add(AND);
            }
            return true;
        }

        /** Depth: how many ( and ! this stands within. */
        private boolean one(int depth) {
            int sign = sign();
            if (sign != '!' && sign != '(') {
                return test(sign);
            }
            if (depth >= NESTED) {
                return false;
            }
            at++;
            if (sign == '!') {
                if (!one(depth + 1)) {
                    return false;
                }
                into.add(NOT);
                return true;
            }
            if (!anyOf(depth + 1) || sign() != ')') {
                return false;
            }
            at++;
            return true;
        }

        private boolean test(int sign) {
            int letter = sign < 0 ? -1 : LETTERS.indexOf((char) sign);
            if (letter < 0) {
                return false;
            }
            at++;
            int relation = at < size ? RELATIONS.indexOf((char) text[at]) : -1;
            if (relation < 0) {
                return false;
            }
            at++;
            int n = number();
            if (n < 0) {
                return false;
            }
            into.add((letter * RELATED + relation) * NUMBERS + n);
            return true;
        }

        /** The word that stands here; -1, if it is none, at its first byte that no word has there. */
        private int word() {
            int most = 0;
            for (int word = 0; word < WORDS; word++) {
                int same = 0;
                while (same < WORD && at + same < size
                        && text[at + same] == ALL_WORDS.charAt(word * WORD + same)) {
                    same++;
                }
                if (same == WORD) {
                    at += WORD;
                    return word;
                }
                most = Math.max(most, same);
            }
            at += most;
            return -1;
        }

        /** One or two digits; -1 if there is none. */
        private int number() {
            int n = -1;
            for (int i = 0; i < 2 && at < size && text[at] >= '0' && text[at] <= '9'; i++) {
                int digit = text[at] - '0';
                n = n < 0 ? digit : 10 * n + digit;
                at++;
            }
            return n;
        }

        private int sign() {
            return at < size ? text[at] : -1;
        }
    }

    /** Does runs; took and printed tell of the latest. */
    private static final class Copier {
        private final int[] out = new int[SHEETS];
        int took, printed;

        void copy(Pile pile, Tray tray, int v, Job job) {
            took = 0;
            printed = 0;
            int page = job.from;
            int kind = tray.kind;
            for (int n = 0; n < pile.size; n++) {
                page = job.pageFrom(page, kind, v, n);
                if (page > job.till || kind == CURLED && n > v) {
                    break;
                }
                int sheet = pile.sheets[kind == REVERSING ? pile.size - 1 - n : n];
                if (!isDry(kind, v, n)) {
                    boolean down = Job.holds(job.turned, page, kind, v, n);
                    int more = kind == TOLD ? tray.parts[n % PARTS] : 0;
                    sheet = withPage(sheet, Math.min(page + more, PAGES), down);
                    printed++;
                    page++;
                }
                out[n] = laidOut(sheet, kind);
                took++;
            }
            gather(pile, kind == REVERSING ? 0 : took);
        }

        /** Whether the sheet goes through as it is. */
        private static boolean isDry(int kind, int v, int n) {
            return (kind == DAMP || kind == TOLD) && v >= 0 && (n + 1) % (v + 2) == 0;
        }

        private static int withPage(int sheet, int page, boolean down) {
            int upper = down ? page | Pile.DOWN : page;
            if ((sheet & Pile.PAGE) != 0) {
                upper = SPOILED;
            }
            return sheet & ~Pile.SIDE | upper;
        }

        private static int laidOut(int sheet, int kind) {
            switch (kind) {
                case FLIPPING:
                case REVERSING:
                    return Pile.over(sheet);
                case TURNING:
                case CURLED:
                    return Pile.about(Pile.over(sheet));
                default:
                    return sheet;
            }
        }

        /** Those that are left, from a place on, come on top of those that are out. */
        private void gather(Pile pile, int firstLeft) {
            int left = pile.size - took;
            for (int i = 0; i < left; i++) {
                pile.sheets[i] = pile.sheets[firstLeft + i];
            }
            for (int i = 0; i < took; i++) {
                pile.sheets[left + i] = out[took - 1 - i];
            }
        }
    }

    /** The bodies of the acts of one tray, with the numbers of those that ran. */
    private static final class Acts {
        private final int[] numbers = new int[KEPT];
        int ran;
        private int i, kind, v;

        void clear() {
            ran = 0;
        }

        int doAct(int number, Tray tray, int which, int x) {
            i = number;
            kind = tray.kind;
            v = tray.v;
            switch (which) {
                case 0: return feeds(kind, x, 0);
                case 1: return prints(kind, x, 0);
                case 2: return tells(kind, x, 0);
                default: return 0;
            }
        }

        int numberAt(int place) {
            return place < 0 || place >= ran || place >= KEPT ? NONE : numbers[place];
        }

        /** Notes that a body begins; it may not beyond the deepest, which no chain of them is near. */
        private boolean begins(int number, int depth) {
            if (depth > DEEPEST) {
                return false;
            }
            if (ran < KEPT) {
                numbers[ran] = number;
            }
            ran++;
            return true;
        }

        /** Feeds as the body of a kind, or of the next above that has one; so prints and tells. */
        private int feeds(int of, int x, int depth) {
            switch (of) {
                case TURNING:
                case CURLED:
                    return begins(30, depth) ? feeds(PLAIN, x * 3, depth + 1) : 0;
                case REVERSING:
                    return begins(50, depth) ? -feeds(FLIPPING, x, depth + 1) : 0;
                case TOLD:
                    return begins(71, depth) ? feeds(DAMP, x, depth + 1) ^ v : 0;
                default:
                    return begins(10, depth) ? x + i : 0;
            }
        }

        private int prints(int of, int x, int depth) {
            switch (of) {
                case FLIPPING:
                    return begins(20, depth) ? prints(PLAIN, x, depth + 1) ^ 6 : 0;
                case REVERSING:
                    return begins(51, depth) ? prints(FLIPPING, x + 1, depth + 1) : 0;
                case TOLD:
                    return begins(70, depth)
                            ? prints(DAMP, x, depth + 1) + feeds(DAMP, 2, depth + 1) : 0;
                default:
                    return begins(11, depth) ? feeds(kind, x, depth + 1) - v : 0;
            }
        }

        private int tells(int of, int x, int depth) {
            switch (of) {
                case DAMP:
                case TOLD:
                    return begins(40, depth)
                            ? tells(PLAIN, x, depth + 1) + prints(kind, 1, depth + 1) : 0;
                case CURLED:
                    return begins(60, depth) ? tells(TURNING, x - i, depth + 1) : 0;
                default:
                    return begins(12, depth) ? prints(kind, x, depth + 1) * 2 : 0;
            }
        }
    }

    /** A row of items of a sort, each held as the number that an item of that sort can be. */
    private static final class Tape {
        int sort = NO_ROW, length;
        final long[] items = new long[ITEMS];

        boolean isRow() {
            return sort != NO_ROW;
        }

        boolean has(int place) {
            return place >= 0 && place < length;
        }

        void begin(int ofSort, int n) {
            sort = ofSort;
            length = n;
            Arrays.fill(items, 0L);
        }

        /** A sort that is none of these holds longs. */
        long asItem(long v) {
            switch (sort) {
                case BYTES: return (byte) v;
                case SHORTS: return (short) v;
                case INTS: return (int) v;
                case BOOLEANS: return v != 0 ? 1 : 0;
                default: return v;
            }
        }
    }

    private final Room now = new Room();
    private final Room kept = new Room();
    private boolean hasImage;
    private final Reader reader = new Reader();
    private final Job[] readJobs = new Job[JOBS];
    private int jobCount;
    private final Copier copier = new Copier();
    private final Pile once = new Pile();
    private final Pile behind = new Pile();
    private final Acts acts = new Acts();
    private final Tape[] tapes = new Tape[TAPES];

    public BothSidesSheet() {
        for (int i = 0; i < TAPES; i++) {
            tapes[i] = new Tape();
        }
    }

    // ---- what a number may be

    private static boolean isWithin(int n, int least, int most) {
        return n >= least && n <= most;
    }

    private boolean isTray(int tray) {
        return isWithin(tray, 0, now.trayCount - 1);
    }

    private boolean isJob(int job) {
        return isWithin(job, 0, jobCount - 1);
    }

    private boolean isSheet(int sheet) {
        return isWithin(sheet, 0, now.stack.size - 1);
    }

    private static boolean isTape(int tape) {
        return isWithin(tape, 0, TAPES - 1);
    }

    private static boolean isWay(int way) {
        return isWithin(way, 0, WAYS - 1);
    }

    private static boolean isEither(int n) {
        return isWithin(n, 0, 1);
    }

    /** Whether a side can be told by hand: its sheet, itself, what is on it. */
    private static boolean isSide(int sheet, int side, int page) {
        return isWithin(sheet, 0, SHEETS - 1) && isEither(side)
                && (isWithin(page, 0, PAGES) || page == SPOILED);
    }

    // ---- trays, jobs, the stack

    public int tray(int kind, int v) {
        if (!isWithin(kind, PLAIN, TOLD)) {
            return NONE;
        }
        if (!isWithin(v, 0, TOP_V)) {
            return BAD;
        }
        if (now.trayCount >= TRAYS) {
            return FULL;
        }
        now.trays[now.trayCount].begin(kind, v);
        now.trayCount++;
        return now.trayCount - 1;
    }

    public int of(int tray, int what) {
        if (!isTray(tray)) {
            return NONE;
        }
        switch (what) {
            case 0: return now.trays[tray].kind;
            case 1: return now.trays[tray].v;
            case 2: return now.trays[tray].ran;
            default: return NONE;
        }
    }

    public int row(int tray, int part, int n) {
        if (!isTray(tray) || !isWithin(part, 0, PARTS - 1)) {
            return NONE;
        }
        if (!isWithin(n, 0, TOP_V)) {
            return BAD;
        }
        if (now.trays[tray].kind != TOLD) {
            return STATE;
        }
        int was = now.trays[tray].parts[part];
        now.trays[tray].parts[part] = n;
        return was;
    }

    public int feed(int sign) {
        if (!isWithin(sign, 0, LAST_SIGN)) {
            return BAD;
        }
        if (reader.size >= TEXT) {
            return FULL;
        }
        reader.text[reader.size] = sign;
        reader.size++;
        return reader.size;
    }

    public int job() {
        if (jobCount >= JOBS) {
            return FULL;
        }
        int answer;
        if (reader.clauses()) {
            readJobs[jobCount] = reader.made();
            answer = jobCount;
            jobCount++;
        } else {
            answer = FAULTY - reader.fault();
        }
        reader.size = 0;
        return answer;
    }

    public int load(int n) {
        if (!isWithin(n, 1, SHEETS)) {
            return BAD;
        }
        if (n > SHEETS - now.stack.size) {
            return FULL;
        }
        now.stack.putBlank(n);
        return now.stack.size;
    }

    public int empty() {
        int were = now.stack.size;
        now.stack.size = 0;
        return were;
    }

    public int turn(int way) {
        if (!isWay(way)) {
            return NONE;
        }
        now.stack.doWay(way);
        return now.stack.rights();
    }

    public int sheet(int sheet, int what) {
        if (!isSheet(sheet)) {
            return NONE;
        }
        switch (what) {
            case 0:
            case 1:
                return now.stack.pageOn(sheet, what);
            case 2:
            case 3:
                return now.stack.isDown(sheet, what - 2) ? 1 : 0;
            case 4:
                return now.stack.isRight(sheet) ? 1 : 0;
            default:
                return NONE;
        }
    }

    public int told(int what) {
        switch (what) {
            case 0: return now.stack.rights();
            case 1: return now.stack.sidesWith(SPOILED);
            case 2: return now.stack.sidesWith(0);
            case 3: return now.stack.missing();
            default: return NONE;
        }
    }

    public int jobs(int job, int what) {
        if (!isJob(job) || !isEither(what)) {
            return NONE;
        }
        return what == 0 ? readJobs[job].from : readJobs[job].till;
    }

    // ---- runs

    public int run(int tray, int job) {
        if (!isTray(tray) || !isJob(job)) {
            return NONE;
        }
        Tray by = now.trays[tray];
        if (by.ran >= TOP_RAN) {
            return STATE;
        }
        copier.copy(now.stack, by, by.v, readJobs[job]);
        by.ran++;
        return copier.printed;
    }

    /** The stack as it would be after a run stands in once then. */
    private void tryRun(int tray, int v, int job) {
        once.copyFrom(now.stack);
        copier.copy(once, now.trays[tray], v, readJobs[job]);
    }

    private int rightsAfter(int tray, int job) {
        tryRun(tray, now.trays[tray].v, job);
        return once.rights();
    }

    /** How many are right behind a way and a second run, the first one being tried in once. */
    private int rightsBehind(int way, int tray, int job) {
        behind.copyFrom(once);
        behind.doWay(way);
        copier.copy(behind, now.trays[tray], now.trays[tray].v, readJobs[job]);
        return behind.rights();
    }

    public int after(int tray, int job, int what) {
        if (!isTray(tray) || !isJob(job)) {
            return NONE;
        }
        tryRun(tray, now.trays[tray].v, job);
        if (what == 0) {
            return once.rights();
        }
        if (what == 1) {
            return copier.printed;
        }
        if (what == 2) {
            return once.sidesWith(SPOILED);
        }
        if (isWithin(what, AFTER_UPPER, AFTER_UPPER + once.size - 1)) {
            return once.pageOn(what - AFTER_UPPER, 0);
        }
        if (isWithin(what, AFTER_LOWER, AFTER_LOWER + once.size - 1)) {
            return once.pageOn(what - AFTER_LOWER, 1);
        }
        return NONE;
    }

    public int best(int job) {
        if (!isJob(job)) {
            return NONE;
        }
        int most = -1;
        int first = NOWHERE;
        for (int tray = 0; tray < now.trayCount; tray++) {
            int rights = rightsAfter(tray, job);
            if (rights > most) {
                most = rights;
                first = tray;
            }
        }
        return first;
    }

    public int uses(int tray, int job) {
        if (!isTray(tray) || !isJob(job)) {
            return NONE;
        }
        once.size = 0;
        once.putBlank(SHEETS);
        copier.copy(once, now.trays[tray], now.trays[tray].v, readJobs[job]);
        return copier.took;
    }

    public int way(int tray, int job, int otherTray, int otherJob, int what) {
        if (!isTray(tray) || !isJob(job) || !isTray(otherTray) || !isJob(otherJob)
                || !isEither(what)) {
            return NONE;
        }
        tryRun(tray, now.trays[tray].v, job);
        int most = -1;
        int first = 0;
        for (int way = 0; way < WAYS; way++) {
            int rights = rightsBehind(way, otherTray, otherJob);
            if (rights > most) {
                most = rights;
                first = way;
            }
        }
        return what == 0 ? first : most;
    }

    public int twice(int job, int otherJob, int what) {
        if (!isJob(job) || !isJob(otherJob) || !isEither(what)) {
            return NONE;
        }
        int most = -1;
        int first = NOWHERE;
        for (int tray = 0; tray < now.trayCount; tray++) {
            tryRun(tray, now.trays[tray].v, job);
            for (int way = 0; way < WAYS; way++) {
                for (int other = 0; other < now.trayCount; other++) {
                    int rights = rightsBehind(way, other, otherJob);
                    if (rights > most) {
                        most = rights;
                        first = 100 * tray + 10 * way + other;
                    }
                }
            }
        }
        return what == 0 ? first : Math.max(most, 0);
    }

    public int find(int page) {
        return isWithin(page, 1, PAGES) ? now.stack.whereIs(page) : BAD;
    }

    // ---- seen, odds

    public int see(int sheet, int side, int page) {
        return note(now.seen, sheet, side, page);
    }

    private static int note(Notes notes, int sheet, int side, int page) {
        if (sheet == -1) {
            notes.size = 0;
            return 0;
        }
        if (!isSide(sheet, side, page)) {
            return BAD;
        }
        return notes.isFull() ? FULL : notes.add(sheet, side, page);
    }

    private boolean isSeenAfter(int tray, int v, int job) {
        tryRun(tray, v, job);
        return once.firstOtherwise(now.seen) == NOWHERE;
    }

    public int which(int job) {
        if (!isJob(job)) {
            return NONE;
        }
        int bits = 0;
        for (int tray = 0; tray < now.trayCount; tray++) {
            if (isSeenAfter(tray, now.trays[tray].v, job)) {
                bits |= 1 << tray;
            }
        }
        return bits;
    }

    public int can(int tray, int job, int what) {
        if (!isTray(tray) || !isJob(job) || !isEither(what)) {
            return NONE;
        }
        int found = 0;
        int least = NOWHERE;
        for (int v = TOP_V; v >= 0; v--) {
            if (isSeenAfter(tray, v, job)) {
                found++;
                least = v;
            }
        }
        return what == 0 ? found : least;
    }

    public long odds(int job, int q, int part) {
        if (!isJob(job) || !isWithin(q, 0, SHEETS) || !isEither(part) || now.trayCount == 0) {
            return NO;
        }
        int enough = 0;
        for (int tray = 0; tray < now.trayCount; tray++) {
            if (rightsAfter(tray, job) >= q) {
                enough++;
            }
        }
        return partInLowest(enough, now.trayCount, part);
    }

    public long mean(int job, int part) {
        if (!isJob(job) || !isEither(part) || now.trayCount == 0) {
            return NO;
        }
        int all = 0;
        for (int tray = 0; tray < now.trayCount; tray++) {
            all += rightsAfter(tray, job);
        }
        return partInLowest(all, now.trayCount, part);
    }

    private static long partInLowest(int above, int below, int part) {
        int shared = 1;
        for (int n = 2; n <= below; n++) {
            if (above % n == 0 && below % n == 0) {
                shared = n;
            }
        }
        return (part == 0 ? above : below) / shared;
    }

    // ---- plans, books

    public int plan(int what, int a, int b) {
        if (what == -1) {
            now.planned.size = 0;
            return 0;
        }
        switch (what) {
            case DO_RUN:
                if (!isTray(a) || !isJob(b)) {
                    return NONE;
                }
                break;
            case DO_WAY:
                if (!isWay(a)) {
                    return NONE;
                }
                break;
            case DO_LOAD:
                if (!isWithin(a, 1, SHEETS)) {
                    return BAD;
                }
                break;
            default:
                return NONE;
        }
        return now.planned.isFull() ? FULL : now.planned.add(what, a, b);
    }

    public int done(int what) {
        if (!isEither(what)) {
            return NONE;
        }
        once.copyFrom(now.stack);
        for (int i = 0; i < now.planned.size; i++) {
            doPlanned(now.planned.first[i], now.planned.second[i], now.planned.third[i]);
        }
        return what == 0 ? once.rights() : once.sidesWith(SPOILED);
    }

    private void doPlanned(int what, int a, int b) {
        if (what == DO_WAY) {
            once.doWay(a);
        } else if (what == DO_LOAD) {
            once.putBlank(a);
        } else if (isTray(a) && isJob(b)) {
            copier.copy(once, now.trays[a], now.trays[a].v, readJobs[b]);
        }
    }

    public int book(int sheet, int side, int page) {
        return note(now.booked, sheet, side, page);
    }

    public int looked() {
        return now.stack.firstOtherwise(now.booked);
    }

    // ---- judging, the image, acts, tapes

    public int judge(int tape, int i) {
        if (!isTape(tape)) {
            return NONE;
        }
        Tape by = tapes[tape];
        if (by.isRow() && by.sort != BYTES) {
            return CAST;
        }
        for (int sheet = 0; sheet < now.stack.size; sheet++) {
            if (!by.isRow() || i < 0 || i >= by.length - sheet) {
                return ROW_ENDS + sheet;
            }
            if (by.items[i + sheet] != now.stack.pageOn(sheet, 0)) {
                return sheet;
            }
        }
        return NOWHERE;
    }

    public int image() {
        kept.copyFrom(now);
        hasImage = true;
        return now.stack.size;
    }

    public int undo() {
        if (!hasImage) {
            return STATE;
        }
        now.copyFrom(kept);
        return now.stack.size;
    }

    public int act(int tray, int act, int x) {
        acts.clear();
        return isTray(tray) ? acts.doAct(tray, now.trays[tray], act, x) : 0;
    }

    public int trace(int i) {
        return acts.numberAt(i);
    }

    public int taken(int tray, int k) {
        if (!isWithin(k, PLAIN, TOLD)) {
            return BAD;
        }
        if (!isTray(tray)) {
            return NOTHING;
        }
        int kind = now.trays[tray].kind;
        return isKindOrUnder(kind, k) ? kind : CAST;
    }

    private static boolean isKindOrUnder(int kind, int k) {
        int next = kind;
        for (int up = 0; up < KIND_ABOVE.length && next > k; up++) {
            next = KIND_ABOVE[next];
        }
        return next == k;
    }

    public int count(int what) {
        switch (what) {
            case 0: return now.stack.size;
            case 1: return now.trayCount;
            case 2: return jobCount;
            case 3: return now.seen.size;
            case 4: return now.planned.size;
            case 5: return now.booked.size;
            case 6: return reader.size;
            case 7: return acts.ran;
            default: return BAD;
        }
    }

    public int tape(int tape, int sort, int n) {
        if (!isTape(tape)) {
            return NONE;
        }
        if (sort == NO_ROW) {
            tapes[tape].begin(NO_ROW, 0);
            return 1;
        }
        if (!isWithin(sort, BYTES, BOOLEANS) || n > ITEMS) {
            return BAD;
        }
        if (n < 0) {
            return SIZE;
        }
        tapes[tape].begin(sort, n);
        return 1;
    }

    public int item(int tape, int i, long v) {
        if (!isTape(tape)) {
            return NONE;
        }
        Tape by = tapes[tape];
        if (!by.isRow()) {
            return NOTHING;
        }
        if (!by.has(i)) {
            return PLACE;
        }
        by.items[i] = by.asItem(v);
        return 1;
    }

    public long read(int tape, int i) {
        return isTape(tape) && tapes[tape].has(i) ? tapes[tape].items[i] : NO;
    }

    public int shift(int tape, int i, int other, int j, int n) {
        if (!isTape(tape) || !isTape(other)) {
            return NONE;
        }
        Tape from = tapes[tape];
        Tape to = tapes[other];
        if (!from.isRow() || !to.isRow()) {
            return NOTHING;
        }
        if (from.sort != to.sort) {
            return CAST;
        }
        if (n < 0 || i < 0 || j < 0 || i > from.length - n || j > to.length - n) {
            return PLACE;
        }
        System.arraycopy(from.items, i, to.items, j, n);
        return n;
    }
}
