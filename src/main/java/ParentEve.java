/** A desk for an evening on which parents see teachers for a few minutes each. */
public final class ParentEve {
    public static final int NONE = -1;
    public static final int RANGE = -2;
    public static final int FULL = -3;
    public static final int STATE = -4;

    private static final int NO_SUCH = -9;

    private static final int TAPE_MOST = 400;
    private static final int SLOTS = 20;
    private static final int ALL_SLOTS = (1 << SLOTS) - 1;
    private static final int TEACHERS = 10;
    private static final int ROOMS = 10;
    private static final int FLOORS = 10;
    private static final int FAMILIES = 15;
    private static final int TONGUES = 4;
    private static final int YEARS_MOST = 9;
    private static final int ASKS_MOST = 40;
    private static final int SET_BITS = 30;
    private static final int SET_MOST = 4;
    private static final int CHANGES_MOST = 30;
    private static final int MINUTES = 800;
    private static final int TELLINGS_MOST = 80;
    private static final int OVER_MOST = 60;
    private static final int HABITS_MOST = 20;
    private static final int POLICIES = 4;
    private static final int LINES_MOST = 8;
    private static final int CONDS_MOST = 4;
    private static final int NOTE_MOST = 60;
    private static final int WORD_MOST = 20;

    // RULES, in the order of rule().
    private static final int SLOT = 0;
    private static final int FLOOR = 1;
    private static final int DOOR = 2;
    private static final int LATE = 3;
    private static final int REST = 4;
    private static final int APART = 5;
    private static final int RULE_WORDS = 6;
    private static final String RULE_NAMES = "slot floor door late rest apart";
    private static final int[] RULE_LEAST = {1, 0, 0, 0, 0, 0};
    private static final int[] RULE_GREATEST = {30, 20, 20, 99, 9, 9};
    private static final int[] RULE_UNTOLD = {10, 2, 1, 15, 0, 0};

    // What a POLICY asks about, in the order of FACT_NAMES.
    private static final int FACT_LATE = 0;
    private static final int FACT_WAITING = 1;
    private static final int FACT_LEFT = 2;
    private static final int FACT_MUST = 3;
    private static final int FACT_HERE = 4;
    private static final int FACT_SLOT = 5;
    private static final int FACTS = 6;
    private static final String FACT_NAMES = "late waiting left must here slot";
    private static final int ABOVE = 0;
    private static final int BELOW = 1;
    private static final String TEST_NAMES = "above below is";
    private static final int ACT_SKIP = 0;
    private static final int ACT_FULL = 1;
    private static final int ACT_SWAP = 3;
    private static final int ACT_SHORT = 4;
    private static final int ACT_PAUSE = 5;
    private static final String ACT_NAMES = "skip full wait swap short pause";
    private static final int ACT_LEAST = 1;
    private static final int ACT_GREATEST = 30;
    private static final int COND_GREATEST = 999;

    private static final int FAULT_SYNTAX = 1;
    private static final int FAULT_RANGE = 2;
    private static final int FAULT_TWICE = 3;
    private static final int FAULT_ROOM = 4;

    private static final int TOLD_OVER = 0;
    private static final int TOLD_ABSENT = 1;
    private static final int TOLD_COMES = 2;
    private static final int TOLD_AWAY = 3;

    // VALUE as one number: MUSTS weigh more than all ASKS, these than all WAITS, these than all POINTS.
    private static final long MUST_WORTH = 1L << 26;
    private static final long ASK_WORTH = 1L << 20;
    private static final long WAIT_WORTH = 1L << 10;

    private static final int MISSED_IN_ONE = 30;
    private static final int MESSAGE_FROM = 5;

    private final Tape tape;
    private final Reader reader;
    private final Rules rules;
    private final Ways ways;
    private final People people;
    private final Plan plan;
    private final Chooser chooser;
    private final Tellings tellings;
    private final Evening evening;
    private final Notes notes;
    private boolean begun;

    public ParentEve() {
        tape = new Tape();
        reader = new Reader(tape);
        rules = new Rules();
        ways = new Ways();
        people = new People(rules);
        plan = new Plan(rules, people);
        chooser = new Chooser(people, plan);
        tellings = new Tellings();
        evening = new Evening(rules, ways, people, plan, tellings);
        notes = new Notes(plan);
        begun = false;
    }

    // ---- the tape

    public int feed(int a, int b, int c, int d, int e) {
        if (tape.size() + 20 > TAPE_MOST) {
            return FULL;
        }
        tape.addFour(a);
        tape.addFour(b);
        tape.addFour(c);
        tape.addFour(d);
        tape.addFour(e);
        return tape.size();
    }

    public int end(int n) {
        if (!within(n, 0, tape.size())) {
            return NONE;
        }
        tape.cut(n);
        return n;
    }

    // ---- texts

    public int rules() {
        int answer = hasSettledPlace() ? STATE : rules.takeText(reader);
        tape.cut(0);
        people.measureWalks();
        return answer;
    }

    public int rule(int what) {
        return within(what, 0, RULE_WORDS - 1) ? rules.told(what) : NO_SUCH;
    }

    public int policy(int p) {
        int answer = isPolicy(p) ? STATE : RANGE;
        if (answer == STATE && !begun) {
            answer = ways.draft().takeText(reader);
            ways.keepDraft(p, answer != NONE);
        }
        tape.cut(0);
        return answer;
    }

    public int follow(int t, int p) {
        if (!isTeacher(t) || p != NONE && !isPolicy(p)) {
            return RANGE;
        }
        evening.forget();
        return ways.setFollowed(t, p);
    }

    public int fault(int what) {
        if (what == 0) {
            return reader.faultKind();
        }
        return what == 1 ? reader.faultPlace() : NONE;
    }

    // ---- who is there

    public int room(int t, int room, int floor) {
        if (!isTeacher(t) || !within(room, 0, ROOMS - 1) || !within(floor, 0, FLOORS - 1)) {
            return RANGE;
        }
        if (hasSettledPlace()) {
            return STATE;
        }
        people.setRoom(t, room, floor);
        return 1;
    }

    public int teacher(int t, int from, int to) {
        if (!isTeacher(t) || !isSpan(from, to, SLOTS)) {
            return RANGE;
        }
        if (hasSettledPlace()) {
            return STATE;
        }
        people.setTeacher(t, slotsFrom(from, to));
        return 1;
    }

    public int family(int f, int from, int to, int tongue) {
        if (!isFamily(f) || !isSpan(from, to, SLOTS) || !within(tongue, 0, TONGUES - 1)) {
            return RANGE;
        }
        if (hasSettledPlace()) {
            return STATE;
        }
        people.setFamily(f, slotsFrom(from, to), tongue);
        return 1;
    }

    public int wish(int f, int from, int to, int years) {
        if (!isFamily(f) || !isSpan(from, to, SLOTS) || !within(years, 0, YEARS_MOST)) {
            return RANGE;
        }
        if (hasSettledPlace()) {
            return STATE;
        }
        people.setWish(f, slotsFrom(from, to), years);
        return 1;
    }

    public int apart(int f, int g, boolean is) {
        if (!isFamily(f) || !isFamily(g) || f == g) {
            return RANGE;
        }
        if (hasSettledPlace()) {
            return STATE;
        }
        return people.setApart(f, g, is) ? 1 : 0;
    }

    public int walk(int t, int u) {
        return isTeacher(t) && isTeacher(u) ? people.walkBetween(t, u) : RANGE;
    }

    // ---- asks

    public int ask(int f, int t, boolean must) {
        if (!isFamily(f) || !isTeacher(t)) {
            return RANGE;
        }
        if (begun || plan.askOf(f, t) != NONE) {
            return STATE;
        }
        return plan.asks() < ASKS_MOST ? plan.addAsk(f, t, must) : FULL;
    }

    public int may(int a, int slot) {
        if (!plan.isAsk(a) || !within(slot, 0, SLOTS - 1)) {
            return RANGE;
        }
        if (plan.isLaid(a)) {
            return STATE;
        }
        return has(plan.openSlots(a), slot) ? 1 : 0;
    }

    public int lay(int a, int slot) {
        if (!plan.isAsk(a) || !within(slot, 0, SLOTS - 1)) {
            return RANGE;
        }
        if (begun || plan.isLaid(a)) {
            return STATE;
        }
        if (!has(plan.openSlots(a), slot)) {
            return 0;
        }
        plan.put(a, slot);
        return 1;
    }

    public int lift(int a) {
        if (!plan.isAsk(a)) {
            return RANGE;
        }
        if (begun || !plan.isLaid(a)) {
            return STATE;
        }
        return plan.take(a);
    }

    public int layAll() {
        return begun ? STATE : chooser.layEveryOne();
    }

    public int best(int set) {
        if (set < 1 || set >> Math.min(plan.asks(), SET_BITS) != 0) {
            return RANGE;
        }
        if (Integer.bitCount(set) > SET_MOST) {
            return FULL;
        }
        if (begun) {
            return STATE;
        }
        chooser.clear();
        for (int a = 0; a < SET_BITS; a++) {
            if (has(set, a)) {
                if (plan.isLaid(a)) {
                    return STATE;
                }
                chooser.pick(a);
            }
        }
        return chooser.layPicked(ALL_SLOTS);
    }

    public int settle() {
        if (begun) {
            return STATE;
        }
        int done = 0;
        while (done < CHANGES_MOST && chooser.changeOnce()) {
            done++;
        }
        return done;
    }

    public int about(int a, int what) {
        if (!plan.isAsk(a)) {
            return NO_SUCH;
        }
        switch (what) {
            case 0:
                return plan.familyOf(a);
            case 1:
                return plan.teacherOf(a);
            case 2:
                return plan.isMust(a) ? 1 : 0;
            case 3:
                return plan.slotOf(a);
            default:
                return NO_SUCH;
        }
    }

    public int waits(int f) {
        if (!isFamily(f)) {
            return RANGE;
        }
        int laid = plan.laidOfFamily(f);
        return laid == 0 ? NONE : gapsIn(laid);
    }

    public int value(int what) {
        switch (what) {
            case 0:
                return plan.mustsLaid();
            case 1:
                return plan.laid();
            case 2:
                return plan.waitsOfAll();
            case 3:
                return plan.points();
            default:
                return NONE;
        }
    }

    // ---- the evening

    public int habit(int t, int minutes) {
        if (!isTeacher(t) || !within(minutes, 0, OVER_MOST)) {
            return RANGE;
        }
        if (ways.habitsOf(t) >= HABITS_MOST) {
            return FULL;
        }
        evening.forget();
        return ways.addHabit(t, minutes);
    }

    public int foretold(int t) {
        return isTeacher(t) ? ways.usualOver(t) : RANGE;
    }

    public int begin() {
        if (begun) {
            return STATE;
        }
        begun = true;
        return plan.laid();
    }

    public int over(int minute, int a, int n) {
        if (!tellings.canBeAt(minute) || !plan.isAsk(a) || !within(n, 0, OVER_MOST)) {
            return RANGE;
        }
        return begun && plan.isLaid(a) ? tellings.add(TOLD_OVER, minute, a, n, 0) : STATE;
    }

    public int absent(int minute, int a, boolean is) {
        if (!tellings.canBeAt(minute) || !plan.isAsk(a)) {
            return RANGE;
        }
        return begun && plan.isLaid(a) ? tellings.add(TOLD_ABSENT, minute, a, is ? 1 : 0, 0) : STATE;
    }

    public int comes(int minute, int f, int from) {
        if (!tellings.canBeAt(minute) || !isFamily(f) || !isMinute(from)) {
            return RANGE;
        }
        return begun ? tellings.add(TOLD_COMES, minute, f, from, 0) : STATE;
    }

    public int away(int minute, int t, int from, int to) {
        if (!tellings.canBeAt(minute) || !isTeacher(t) || !isSpan(from, to, MINUTES)) {
            return RANGE;
        }
        return begun ? tellings.add(TOLD_AWAY, minute, t, from, to) : STATE;
    }

    public int meeting(int a, int minute, int what) {
        if (!plan.isAsk(a) || !isMinute(minute) || !within(what, 0, 3)) {
            return RANGE;
        }
        if (!begun || !plan.isLaid(a)) {
            return STATE;
        }
        int known = tellings.knownAt(minute);
        evening.makeReady(known);
        int start = evening.startOf(a, known);
        int stop = evening.stopOf(a, known);
        switch (what) {
            case 0:
                return start;
            case 1:
                return stop;
            case 2:
                return start == NONE ? 1 : 0;
            default:
                return stop - start;
        }
    }

    public int off(int minute) {
        if (!isMinute(minute)) {
            return RANGE;
        }
        if (!begun) {
            return STATE;
        }
        int known = tellings.knownAt(minute);
        evening.makeReady(known);
        evening.makeReady(tellings.size());
        return evening.offAt(minute, known);
    }

    public int next(int f, int minute) {
        if (!isFamily(f) || !isMinute(minute)) {
            return RANGE;
        }
        if (!begun) {
            return STATE;
        }
        int known = tellings.knownAt(minute);
        evening.makeReady(known);
        return evening.nextOf(f, minute, known);
    }

    public int messages(int f) {
        if (!isFamily(f)) {
            return RANGE;
        }
        if (!begun) {
            return STATE;
        }
        for (int known = 0; known <= tellings.size(); known++) {
            if (tellings.areAllOfTheirMinutes(known)) {
                evening.makeReady(known);
            }
        }
        return evening.messagesTo(f);
    }

    public int mend(int minute) {
        if (!isMinute(minute)) {
            return RANGE;
        }
        if (!begun) {
            return STATE;
        }
        int known = tellings.knownAt(minute);
        evening.makeReady(known);
        if (evening.missed(known) > SET_MOST) {
            return FULL;
        }
        chooser.clear();
        for (int a = 0; a < plan.asks(); a++) {
            if (plan.isLaid(a) && evening.startOf(a, known) == NONE) {
                chooser.pick(a);
            }
        }
        evening.forget();
        return chooser.layPickedAnew(rules.slotsNotAheadOf(minute));
    }

    // ---- notes

    public int note(int a) {
        int answer = plan.isAsk(a) ? notes.takeNote(a, tape) : RANGE;
        tape.cut(0);
        return answer;
    }

    public int let(int a, int t, boolean is) {
        if (!plan.isAsk(a) || !isTeacher(t)) {
            return RANGE;
        }
        return notes.setLet(a, t, is) ? 1 : 0;
    }

    public int read(int t, int a, int i) {
        if (!isTeacher(t) || !plan.isAsk(a)) {
            return RANGE;
        }
        return notes.mayRead(t, a) ? notes.byteOf(a, i) : NONE;
    }

    public int find(int t) {
        int answer = isTeacher(t) ? notes.search(t, tape) : RANGE;
        tape.cut(0);
        return answer;
    }

    public int found(int i) {
        return notes.foundAt(i);
    }

    public int count(int what) {
        if (begun && within(what, 5, 6)) {
            evening.makeReady(tellings.size());
        }
        switch (what) {
            case 0:
                return plan.asks();
            case 1:
                return plan.laid();
            case 2:
                return plan.musts() - plan.mustsLaid();
            case 3:
                return begun ? 1 : 0;
            case 4:
                return tellings.size();
            case 5:
                return begun ? evening.missed(tellings.size()) : 0;
            case 6:
                return begun ? evening.lastStop(tellings.size()) : 0;
            case 7:
                return tape.size();
            case 8:
                return notes.size();
            default:
                return what >= 10 && isPolicy(what - 10) ? ways.linesOf(what - 10) : NONE;
        }
    }

    private boolean hasSettledPlace() {
        return begun || plan.laid() > 0;
    }

    private static boolean within(int n, int least, int greatest) {
        return n >= least && n <= greatest;
    }

    private static boolean isTeacher(int t) {
        return within(t, 0, TEACHERS - 1);
    }

    private static boolean isFamily(int f) {
        return within(f, 0, FAMILIES - 1);
    }

    private static boolean isPolicy(int p) {
        return within(p, 0, POLICIES - 1);
    }

    private static boolean isMinute(int minute) {
        return within(minute, 0, MINUTES - 1);
    }

    private static boolean isSpan(int from, int to, int many) {
        return from >= 0 && from <= to && to < many;
    }

    /** SLOTS from .. to as bits; those that there are not are left out. */
    private static int slotsFrom(int from, int to) {
        int low = Math.max(from, 0);
        int high = Math.min(to, SLOTS - 1);
        return low > high ? 0 : ((1 << (high - low + 1)) - 1) << low;
    }

    private static boolean has(int bits, int i) {
        return (bits >> i & 1) != 0;
    }

    /** The least bit of some; 32 of none. */
    private static int leastOf(int bits) {
        return Integer.bitCount((bits & -bits) - 1);
    }

    /** SLOTS from the first to the last one of some, both with them, less how many they are. */
    private static int gapsIn(int slots) {
        int upToLast = slots | slots >> 1;
        upToLast |= upToLast >> 2;
        upToLast |= upToLast >> 4;
        upToLast |= upToLast >> 8;
        upToLast |= upToLast >> 16;
        int fromFirst = slots | -slots;
        return Integer.bitCount(upToLast & fromFirst & ~slots);
    }

    /** The bytes that were fed and not read yet, as numbers 0 .. 255. */
    private static final class Tape {
        private final int[] bytes = new int[TAPE_MOST];
        private int size = 0;

        int size() {
            return size;
        }

        void addFour(int four) {
            for (int shift = 24; shift >= 0; shift -= 8) {
                if (size < TAPE_MOST) {
                    bytes[size] = four >>> shift & 255;
                    size++;
                }
            }
        }

        void cut(int n) {
            size = Math.max(0, Math.min(n, size));
        }

        int byteAt(int i) {
            return i >= 0 && i < size ? bytes[i] : NONE;
        }
    }

    /** Reads TOKENS one by one and keeps the FAULT of the latest text. */
    private static final class Reader {
        private static final int AT_END = 0;
        private static final int WORD = 1;
        private static final int NUMBER = 2;
        private static final int SEMICOLON = 3;
        private static final int OTHER = 4;
        private static final int DIGITS_MOST = 3;

        private final Tape tape;
        private int token = AT_END;
        private int start = 0;
        private int stop = 0;
        private int faultKind = 0;
        private int faultPlace = NONE;

        Reader(Tape tape) {
            this.tape = tape;
        }

        int faultKind() {
            return faultKind;
        }

        int faultPlace() {
            return faultPlace;
        }

        void open() {
            start = 0;
            stop = 0;
            faultKind = 0;
            faultPlace = NONE;
        }

        /** Tells a FAULT at the TOKEN; always NONE, for the caller to hand on. */
        int fail(int kind) {
            faultKind = kind;
            faultPlace = start;
            return NONE;
        }

        void step() {
            start = stop;
            while (start < tape.size() && isBlank(tape.byteAt(start))) {
                start++;
            }
            stop = start;
            int first = tape.byteAt(start);
            if (first == NONE) {
                token = AT_END;
            } else if (isSmall(first)) {
                while (isSmall(tape.byteAt(stop)) && stop < TAPE_MOST) {
                    stop++;
                }
                token = WORD;
            } else if (isDigit(first)) {
                while (isDigit(tape.byteAt(stop)) && stop < TAPE_MOST) {
                    stop++;
                }
                token = stop - start > DIGITS_MOST ? OTHER : NUMBER;
            } else {
                stop = start + 1;
                token = first == ';' ? SEMICOLON : OTHER;
            }
        }

        boolean isAtEnd() {
            return token == AT_END;
        }

        /** Which of some words, with a blank between any two, the TOKEN is; NONE if it is none of them. */
        int wordOf(String words) {
            if (token != WORD) {
                return NONE;
            }
            int which = 0;
            int from = 0;
            for (int i = 0; i <= words.length(); i++) {
                if (i == words.length() || words.charAt(i) == ' ') {
                    if (isText(words, from, i)) {
                        return which;
                    }
                    which++;
                    from = i + 1;
                }
            }
            return NONE;
        }

        private boolean isText(String words, int from, int to) {
            if (to - from != stop - start) {
                return false;
            }
            for (int i = 0; from + i < to; i++) {
                if (words.charAt(from + i) != tape.byteAt(start + i)) {
                    return false;
                }
            }
            return true;
        }

        /** Goes on to a TOKEN that is to be one of some words: which it is; NONE with a FAULT. */
        int takeWordOf(String words) {
            step();
            int which = wordOf(words);
            return which == NONE ? fail(FAULT_SYNTAX) : which;
        }

        /** Goes on to a TOKEN that is to be an N within bounds: the N; NONE with a FAULT. */
        int takeNumber(int least, int greatest) {
            step();
            if (token != NUMBER) {
                return fail(FAULT_SYNTAX);
            }
            int n = 0;
            for (int i = start; i < stop; i++) {
                n = n * 10 + tape.byteAt(i) - '0';
            }
            return within(n, least, greatest) ? n : fail(FAULT_RANGE);
        }

        /** Goes on to a TOKEN that is to be a semicolon: if it is; else with a FAULT. */
        boolean takeSemicolon() {
            step();
            if (token != SEMICOLON) {
                fail(FAULT_SYNTAX);
            }
            return token == SEMICOLON;
        }

        private static boolean isBlank(int b) {
            return b == 32 || b == 10;
        }

        private static boolean isSmall(int b) {
            return within(b, 'a', 'z');
        }

        private static boolean isDigit(int b) {
            return within(b, '0', '9');
        }
    }

    private static final class Rules {
        private final int[] now = new int[RULE_WORDS];
        private final int[] draft = new int[RULE_WORDS];

        Rules() {
            for (int i = 0; i < RULE_WORDS; i++) {
                now[i] = RULE_UNTOLD[i];
            }
        }

        int told(int what) {
            return within(what, 0, RULE_WORDS - 1) ? now[what] : 0;
        }

        /** Minutes of a SLOT; never below 1, so that it may divide. */
        int slotMinutes() {
            return now[SLOT] > 0 ? now[SLOT] : 1;
        }

        int slotsNotAheadOf(int minute) {
            int slot = slotMinutes();
            return slotsFrom((minute + slot - 1) / slot, SLOTS - 1);
        }

        /** How many lines were read; NONE with a FAULT, and all stays as it was. */
        int takeText(Reader reader) {
            for (int i = 0; i < RULE_WORDS; i++) {
                draft[i] = RULE_UNTOLD[i];
            }
            int told = 0;
            reader.open();
            // no word is told twice, so a line more than there are words can't come to its end
            for (int lines = 0; lines <= RULE_WORDS; lines++) {
                reader.step();
                if (reader.isAtEnd()) {
                    System.arraycopy(draft, 0, now, 0, RULE_WORDS);
                    return lines;
                }
                int which = reader.wordOf(RULE_NAMES);
                if (!within(which, 0, RULE_WORDS - 1)) {
                    return reader.fail(FAULT_SYNTAX);
                }
                if (has(told, which)) {
                    return reader.fail(FAULT_TWICE);
                }
                told |= 1 << which;
                draft[which] = reader.takeNumber(RULE_LEAST[which], RULE_GREATEST[which]);
                if (draft[which] == NONE || !reader.takeSemicolon()) {
                    return NONE;
                }
            }
            return NONE;
        }
    }

    /** The lines of one POLICY. */
    private static final class Policy {
        private final int[] conditions = new int[LINES_MOST];
        private final int[] facts = new int[LINES_MOST * CONDS_MOST];
        private final int[] tests = new int[LINES_MOST * CONDS_MOST];
        private final int[] numbers = new int[LINES_MOST * CONDS_MOST];
        private final int[] acts = new int[LINES_MOST];
        private final int[] actNumbers = new int[LINES_MOST];
        private int lines = 0;

        int lines() {
            return lines;
        }

        int actOf(int line) {
            return within(line, 0, LINES_MOST - 1) ? acts[line] : NONE;
        }

        int actNumberOf(int line) {
            return within(line, 0, LINES_MOST - 1) ? actNumbers[line] : 0;
        }

        /** The first line all COND of which hold of some facts; NONE. */
        int lineThatHolds(int[] known) {
            for (int line = 0; line < lines; line++) {
                boolean all = true;
                for (int i = 0; all && i < conditions[line]; i++) {
                    all = holds(line * CONDS_MOST + i, known);
                }
                if (all) {
                    return line;
                }
            }
            return NONE;
        }

        private boolean holds(int at, int[] known) {
            int fact = within(facts[at], 0, known.length - 1) ? known[facts[at]] : 0;
            if (tests[at] == ABOVE) {
                return fact > numbers[at];
            }
            return tests[at] == BELOW ? fact < numbers[at] : fact == numbers[at];
        }

        /** How many lines were read; NONE with a FAULT, and then the lines are no use. */
        int takeText(Reader reader) {
            lines = 0;
            reader.open();
            for (int line = 0; line <= LINES_MOST; line++) {
                reader.step();
                if (reader.isAtEnd()) {
                    lines = line;
                    return line;
                }
                if (reader.wordOf("when") == NONE) {
                    return reader.fail(FAULT_SYNTAX);
                }
                if (line == LINES_MOST) {
                    return reader.fail(FAULT_ROOM);
                }
                if (!takeConditions(reader, line) || !takeAct(reader, line)) {
                    return NONE;
                }
            }
            return NONE;
        }

        /** Reads COND behind a "when" or "and", up to the "do". */
        private boolean takeConditions(Reader reader, int line) {
            for (int i = 0; i < CONDS_MOST; i++) {
                if (!takeCondition(reader, line * CONDS_MOST + i)) {
                    return false;
                }
                conditions[line] = i + 1;
                int word = reader.takeWordOf("do and");
                if (word != 1) {
                    return word == 0;
                }
            }
            reader.fail(FAULT_ROOM);
            return false;
        }

        private boolean takeCondition(Reader reader, int at) {
            facts[at] = reader.takeWordOf(FACT_NAMES);
            if (facts[at] == NONE) {
                return false;
            }
            tests[at] = reader.takeWordOf(TEST_NAMES);
            if (tests[at] == NONE) {
                return false;
            }
            numbers[at] = reader.takeNumber(0, COND_GREATEST);
            return numbers[at] != NONE;
        }

        private boolean takeAct(Reader reader, int line) {
            acts[line] = reader.takeWordOf(ACT_NAMES);
            if (acts[line] == NONE) {
                return false;
            }
            actNumbers[line] = 0;
            if (acts[line] == ACT_SHORT || acts[line] == ACT_PAUSE) {
                actNumbers[line] = reader.takeNumber(ACT_LEAST, ACT_GREATEST);
            }
            return actNumbers[line] != NONE && reader.takeSemicolon();
        }
    }

    /** How TEACHERS go about it: POLICIES, who follows them, HABITS. */
    private static final class Ways {
        private final Policy[] policies = new Policy[POLICIES];
        private Policy draft = new Policy();
        private final int[] followed = new int[TEACHERS];
        private final int[] habits = new int[TEACHERS * HABITS_MOST];
        private final int[] habitCounts = new int[TEACHERS];

        Ways() {
            for (int p = 0; p < POLICIES; p++) {
                policies[p] = new Policy();
            }
            for (int t = 0; t < TEACHERS; t++) {
                followed[t] = NONE;
            }
        }

        /** What a text is read into, so that a FAULT in it spoils no POLICY. */
        Policy draft() {
            return draft;
        }

        void keepDraft(int p, boolean isWhole) {
            if (isWhole && isPolicy(p)) {
                Policy old = policies[p];
                policies[p] = draft;
                draft = old;
            }
        }

        int linesOf(int p) {
            return isPolicy(p) ? policies[p].lines() : 0;
        }

        int setFollowed(int t, int p) {
            int old = followed[t];
            followed[t] = p;
            return old;
        }

        /** The POLICY that a TEACHER follows; null if none. */
        Policy policyOf(int t) {
            int p = followed[t];
            return isPolicy(p) ? policies[p] : null;
        }

        int habitsOf(int t) {
            return habitCounts[t];
        }

        /** Puts a HABIT among those that there are, so that they rise. */
        int addHabit(int t, int minutes) {
            int row = t * HABITS_MOST;
            int at = habitCounts[t];
            if (at >= HABITS_MOST) {
                return FULL;
            }
            while (at > 0 && habits[row + at - 1] > minutes) {
                habits[row + at] = habits[row + at - 1];
                at--;
            }
            habits[row + at] = minutes;
            habitCounts[t]++;
            return habitCounts[t];
        }

        int usualOver(int t) {
            int n = habitCounts[t];
            return n == 0 ? 0 : habits[t * HABITS_MOST + (n - 1) / 2];
        }
    }

    /** TEACHERS and FAMILIES. SLOTS are held as bits. */
    private static final class People {
        private final Rules rules;
        private final int[] rooms = new int[TEACHERS];
        private final int[] floors = new int[TEACHERS];
        private final int[] teacherSlots = new int[TEACHERS];
        private final int[] familySlots = new int[FAMILIES];
        private final int[] tongues = new int[FAMILIES];
        private final int[] wishes = new int[FAMILIES];
        private final int[] years = new int[FAMILIES];
        private final int[] apart = new int[FAMILIES];
        // by two TEACHERS: minutes, and as many SLOTS as they take
        private final int[] walks = new int[TEACHERS * TEACHERS];
        private final int[] walkSlots = new int[TEACHERS * TEACHERS];

        People(Rules rules) {
            this.rules = rules;
            for (int t = 0; t < TEACHERS; t++) {
                teacherSlots[t] = ALL_SLOTS;
            }
            for (int f = 0; f < FAMILIES; f++) {
                familySlots[f] = ALL_SLOTS;
                wishes[f] = ALL_SLOTS;
            }
        }

        void setRoom(int t, int room, int floor) {
            rooms[t] = room;
            floors[t] = floor;
            measureWalks();
        }

        /** To be called when ROOMS or RULES are others. */
        void measureWalks() {
            int slot = rules.slotMinutes();
            for (int t = 0; t < TEACHERS; t++) {
                for (int u = 0; u < TEACHERS; u++) {
                    boolean unlike = rooms[t] != rooms[u] || floors[t] != floors[u];
                    int stairs = rules.told(FLOOR) * Math.abs(floors[t] - floors[u]);
                    int minutes = stairs + (unlike ? rules.told(DOOR) : 0);
                    walks[t * TEACHERS + u] = minutes;
                    walkSlots[t * TEACHERS + u] = (minutes + slot - 1) / slot;
                }
            }
        }

        void setTeacher(int t, int slots) {
            teacherSlots[t] = slots;
        }

        void setFamily(int f, int slots, int tongue) {
            familySlots[f] = slots;
            tongues[f] = tongue;
        }

        void setWish(int f, int slots, int notServed) {
            wishes[f] = slots;
            years[f] = notServed;
        }

        /** If it was otherwise. */
        boolean setApart(int f, int g, boolean is) {
            if (has(apart[f], g) == is) {
                return false;
            }
            apart[f] ^= 1 << g;
            apart[g] ^= 1 << f;
            return true;
        }

        int teacherSlots(int t) {
            return teacherSlots[t];
        }

        int familySlots(int f) {
            return familySlots[f];
        }

        int tongueOf(int f) {
            return tongues[f];
        }

        int wishOf(int f) {
            return wishes[f];
        }

        int yearsOf(int f) {
            return years[f];
        }

        int apartFrom(int f) {
            return apart[f];
        }

        int walkBetween(int t, int u) {
            return walks[t * TEACHERS + u];
        }

        int walkSlots(int t, int u) {
            return walkSlots[t * TEACHERS + u];
        }
    }

    /** ASKS, the SLOTS in which they are LAID, and the VALUE of that. */
    private static final class Plan {
        private final Rules rules;
        private final People people;
        private final int[] families = new int[ASKS_MOST];
        private final int[] teachers = new int[ASKS_MOST];
        private final boolean[] must = new boolean[ASKS_MOST];
        private final int[] slots = new int[ASKS_MOST];
        private final int[] pairs = new int[FAMILIES * TEACHERS];
        private final int[] diary = new int[TEACHERS * SLOTS];
        private final int[] familyLaid = new int[FAMILIES];
        private final int[] teacherLaid = new int[TEACHERS];
        private final int[] tongueLaid = new int[TONGUES];
        private int asks = 0;
        private int musts = 0;
        private int laid = 0;
        private int mustsLaid = 0;
        private int waitsOfAll = 0;
        private int points = 0;

        Plan(Rules rules, People people) {
            this.rules = rules;
            this.people = people;
            for (int i = 0; i < FAMILIES * TEACHERS; i++) {
                pairs[i] = NONE;
            }
            for (int i = 0; i < TEACHERS * SLOTS; i++) {
                diary[i] = NONE;
            }
        }

        int asks() {
            return asks;
        }

        int musts() {
            return musts;
        }

        int laid() {
            return laid;
        }

        int mustsLaid() {
            return mustsLaid;
        }

        int waitsOfAll() {
            return waitsOfAll;
        }

        int points() {
            return points;
        }

        boolean isAsk(int a) {
            return a >= 0 && a < asks;
        }

        int familyOf(int a) {
            return families[a];
        }

        int teacherOf(int a) {
            return teachers[a];
        }

        boolean isMust(int a) {
            return must[a];
        }

        int slotOf(int a) {
            return slots[a];
        }

        boolean isLaid(int a) {
            return slots[a] != NONE;
        }

        int askOf(int f, int t) {
            return pairs[f * TEACHERS + t];
        }

        /** The ASK that a TEACHER has in a SLOT; NONE. */
        int askIn(int t, int slot) {
            return within(slot, 0, SLOTS - 1) ? diary[t * SLOTS + slot] : NONE;
        }

        int laidOfFamily(int f) {
            return familyLaid[f];
        }

        int laidOfTeacher(int t) {
            return teacherLaid[t];
        }

        int addAsk(int f, int t, boolean isMust) {
            if (asks >= ASKS_MOST) {
                return FULL;
            }
            int a = asks;
            asks++;
            families[a] = f;
            teachers[a] = t;
            must[a] = isMust;
            slots[a] = NONE;
            pairs[f * TEACHERS + t] = a;
            if (isMust) {
                musts++;
            }
            return a;
        }

        /** Lays an ASK that is not LAID. */
        void put(int a, int slot) {
            mark(a, slot);
            slots[a] = slot;
            diary[teachers[a] * SLOTS + slot] = a;
            laid++;
            mustsLaid += must[a] ? 1 : 0;
            points += pointsIn(a, slot);
        }

        /** Takes out an ASK that is LAID: the SLOT that it had. */
        int take(int a) {
            int slot = slots[a];
            mark(a, slot);
            slots[a] = NONE;
            diary[teachers[a] * SLOTS + slot] = NONE;
            laid--;
            mustsLaid -= must[a] ? 1 : 0;
            points -= pointsIn(a, slot);
            return slot;
        }

        /** Turns the bits of a SLOT over for all who are in it. */
        private void mark(int a, int slot) {
            int f = families[a];
            int bit = 1 << slot;
            waitsOfAll -= gapsIn(familyLaid[f]);
            familyLaid[f] ^= bit;
            waitsOfAll += gapsIn(familyLaid[f]);
            teacherLaid[teachers[a]] ^= bit;
            if (people.tongueOf(f) > 0) {
                tongueLaid[people.tongueOf(f)] ^= bit;
            }
        }

        /** The SLOTS in which an ASK that is not LAID MAY be laid. */
        int openSlots(int a) {
            int f = families[a];
            int t = teachers[a];
            int open = people.familySlots(f) & people.teacherSlots(t);
            open &= ~(familyLaid[f] | teacherLaid[t]);
            if (people.tongueOf(f) > 0) {
                open &= ~tongueLaid[people.tongueOf(f)];
            }
            if (open != 0) {
                open &= ~(tooNearForWalks(f, t) | tooNearForApart(f) | tooManyInARow(t));
            }
            return open;
        }

        private int tooNearForWalks(int f, int t) {
            int near = 0;
            if (familyLaid[f] == 0) {
                return near;
            }
            for (int u = 0; u < TEACHERS; u++) {
                int other = askOf(f, u);
                if (other != NONE && isLaid(other)) {
                    int between = people.walkSlots(t, u);
                    near |= slotsFrom(slots[other] - between, slots[other] + between);
                }
            }
            return near;
        }

        private int tooNearForApart(int f) {
            int theirs = 0;
            for (int g = 0; g < FAMILIES; g++) {
                if (has(people.apartFrom(f), g)) {
                    theirs |= familyLaid[g];
                }
            }
            int near = theirs;
            for (int i = 1; i <= rules.told(APART); i++) {
                near |= theirs << i | theirs >> i;
            }
            return near;
        }

        /** SLOTS in which a TEACHER can't have one more without more than REST one behind the other. */
        private int tooManyInARow(int t) {
            int rest = rules.told(REST);
            int bits = teacherLaid[t];
            int tired = 0;
            for (int slot = 0; slot < SLOTS && rest > 0; slot++) {
                int row = 1;
                for (int i = slot - 1; i >= 0 && has(bits, i); i--) {
                    row++;
                }
                for (int i = slot + 1; i < SLOTS && has(bits, i); i++) {
                    row++;
                }
                if (row > rest) {
                    tired |= 1 << slot;
                }
            }
            return tired;
        }

        private int pointsIn(int a, int slot) {
            int f = families[a];
            return has(people.wishOf(f), slot) ? 1 + people.yearsOf(f) : 0;
        }

        /** VALUE as one number: the greater it is, the greater is the VALUE. */
        long worth() {
            return mustsLaid * MUST_WORTH + laid * ASK_WORTH - waitsOfAll * WAIT_WORTH + points;
        }

        /** How much worth() grows if an ASK, LAID or not, comes to be in a SLOT. */
        long gain(int a, int slot) {
            int before = familyLaid[families[a]];
            int after = before | 1 << slot;
            int old = slots[a];
            long more = pointsIn(a, slot);
            if (old == NONE) {
                more += ASK_WORTH + (must[a] ? MUST_WORTH : 0);
            } else {
                after = before & ~(1 << old) | 1 << slot;
                more -= pointsIn(a, old);
            }
            return more - (gapsIn(after) - gapsIn(before)) * WAIT_WORTH;
        }

        /** What gain() of an ASK that is not LAID can't be above, whatever else is LAID. */
        long greatestGain(int a) {
            return ASK_WORTH + (must[a] ? MUST_WORTH : 0) + WAIT_WORTH + 1 + people.yearsOf(families[a]);
        }
    }

    /** LAID ALL, BEST and SETTLED. */
    private static final class Chooser {
        private final People people;
        private final Plan plan;
        private final int[] picked = new int[SET_MOST];
        private final int[] oldSlots = new int[SET_MOST];
        private final int[] row = new int[SET_MOST];
        private final int[] bestRow = new int[SET_MOST];
        // what the ASKS from one on can add at most
        private final long[] hopes = new long[SET_MOST + 1];
        private int size = 0;
        private int allowed = 0;
        private long bestWorth = 0;
        private int changeAsk = NONE;
        private int changeOther = NONE;
        private int changeSlot = NONE;
        private long changeGain = 0;

        Chooser(People people, Plan plan) {
            this.people = people;
            this.plan = plan;
        }

        int layEveryOne() {
            int before = plan.laid();
            layThose(true);
            layThose(false);
            return plan.laid() - before;
        }

        private void layThose(boolean must) {
            for (int years = YEARS_MOST; years >= 0; years--) {
                for (int a = 0; a < plan.asks(); a++) {
                    boolean due = plan.isMust(a) == must && people.yearsOf(plan.familyOf(a)) == years;
                    if (due && !plan.isLaid(a)) {
                        layFirst(a);
                    }
                }
            }
        }

        private void layFirst(int a) {
            int open = plan.openSlots(a);
            int wished = open & people.wishOf(plan.familyOf(a));
            if (open != 0) {
                plan.put(a, leastOf(wished != 0 ? wished : open));
            }
        }

        void clear() {
            size = 0;
        }

        /** Takes an ASK into the set; they are to come by number. */
        void pick(int a) {
            if (size < SET_MOST) {
                picked[size] = a;
                size++;
            }
        }

        /** Lays the BEST of the set in SLOTS that are allowed: how many are LAID of it. */
        int layPicked(int slots) {
            allowed = slots;
            hopes[size] = 0;
            for (int i = size - 1; i >= 0; i--) {
                hopes[i] = hopes[i + 1] + hopeOf(i);
            }
            bestWorth = -1;
            tryFrom(0);
            int came = 0;
            for (int i = 0; i < size; i++) {
                if (bestRow[i] < SLOTS) {
                    plan.put(picked[i], bestRow[i]);
                    came++;
                }
            }
            return came;
        }

        /** Takes the LAID set out and lays it as BEST: how many aren't where they were. */
        int layPickedAnew(int slots) {
            for (int i = 0; i < size; i++) {
                oldSlots[i] = plan.take(picked[i]);
            }
            layPicked(slots);
            int unlike = 0;
            for (int i = 0; i < size; i++) {
                if (plan.slotOf(picked[i]) != oldSlots[i]) {
                    unlike++;
                }
            }
            return unlike;
        }

        private long hopeOf(int i) {
            int a = picked[i];
            for (int j = 0; j < size; j++) {
                if (j != i && plan.familyOf(picked[j]) == plan.familyOf(a)) {
                    return plan.greatestGain(a);
                }
            }
            // no other of the set changes what its FAMILY waits, so what it gains now it gains in any way
            long hope = 0;
            int open = plan.openSlots(a) & allowed;
            for (int slot = 0; slot < SLOTS; slot++) {
                if (has(open, slot)) {
                    hope = Math.max(hope, plan.gain(a, slot));
                }
            }
            return hope;
        }

        /** Tries all rows that go on from the first i SLOTS, the least first; at most SET_MOST levels deep. */
        private void tryFrom(int i) {
            if (plan.worth() + hopes[i] <= bestWorth) {
                return;
            }
            if (i >= size) {
                bestWorth = plan.worth();
                System.arraycopy(row, 0, bestRow, 0, SET_MOST);
                return;
            }
            int a = picked[i];
            int open = plan.openSlots(a) & allowed;
            for (int slot = 0; slot < SLOTS; slot++) {
                if (has(open, slot)) {
                    row[i] = slot;
                    plan.put(a, slot);
                    tryFrom(i + 1);
                    plan.take(a);
                }
            }
            row[i] = SLOTS;
            tryFrom(i + 1);
        }

        /** Does the CHANGE that is due; if there was one. */
        boolean changeOnce() {
            changeGain = 0;
            seekPuts(false);
            seekPuts(true);
            seekSwaps();
            if (changeGain == 0) {
                return false;
            }
            if (changeOther != NONE) {
                swap(changeAsk, changeOther);
                return true;
            }
            if (plan.isLaid(changeAsk)) {
                plan.take(changeAsk);
            }
            plan.put(changeAsk, changeSlot);
            return true;
        }

        /** Looks for a greater gain among ASKS that are laid, or among LAID ones that are moved. */
        private void seekPuts(boolean laid) {
            for (int a = 0; a < plan.asks(); a++) {
                if (plan.isLaid(a) == laid) {
                    int open = openIfNotLaid(a);
                    for (int slot = 0; slot < SLOTS; slot++) {
                        if (has(open, slot) && plan.gain(a, slot) > changeGain) {
                            keepChange(a, NONE, slot, plan.gain(a, slot));
                        }
                    }
                }
            }
        }

        private int openIfNotLaid(int a) {
            if (!plan.isLaid(a)) {
                return plan.openSlots(a);
            }
            int slot = plan.take(a);
            int open = plan.openSlots(a);
            plan.put(a, slot);
            return open;
        }

        private void seekSwaps() {
            for (int a = 0; a < plan.asks(); a++) {
                for (int b = a + 1; b < plan.asks(); b++) {
                    // of one FAMILY both, they leave WAITS and POINTS as they are
                    if (plan.isLaid(a) && plan.isLaid(b) && plan.familyOf(a) != plan.familyOf(b)) {
                        long more = plan.gain(a, plan.slotOf(b)) + plan.gain(b, plan.slotOf(a));
                        if (more > changeGain && maySwap(a, b)) {
                            keepChange(a, b, NONE, more);
                        }
                    }
                }
            }
        }

        private void keepChange(int a, int other, int slot, long gain) {
            changeAsk = a;
            changeOther = other;
            changeSlot = slot;
            changeGain = gain;
        }

        private boolean maySwap(int a, int b) {
            int slotOfA = plan.take(a);
            int slotOfB = plan.take(b);
            boolean may = has(plan.openSlots(a), slotOfB);
            if (may) {
                plan.put(a, slotOfB);
                may = has(plan.openSlots(b), slotOfA);
                plan.take(a);
            }
            plan.put(a, slotOfA);
            plan.put(b, slotOfB);
            return may;
        }

        private void swap(int a, int b) {
            int slotOfA = plan.take(a);
            int slotOfB = plan.take(b);
            plan.put(a, slotOfB);
            plan.put(b, slotOfA);
        }
    }

    /** TELLINGS as they came. What is KNOWN at a minute is the first few of them. */
    private static final class Tellings {
        private final int[] kinds = new int[TELLINGS_MOST];
        private final int[] minutes = new int[TELLINGS_MOST];
        private final int[] who = new int[TELLINGS_MOST];
        private final int[] first = new int[TELLINGS_MOST];
        private final int[] second = new int[TELLINGS_MOST];
        private int size = 0;

        int size() {
            return size;
        }

        int minuteOf(int i) {
            return i >= 0 && i < size ? minutes[i] : NONE;
        }

        boolean canBeAt(int minute) {
            return isMinute(minute) && minute >= minuteOf(size - 1);
        }

        int add(int kind, int minute, int of, int a, int b) {
            if (size >= TELLINGS_MOST) {
                return FULL;
            }
            kinds[size] = kind;
            minutes[size] = minute;
            who[size] = of;
            first[size] = a;
            second[size] = b;
            size++;
            return size;
        }

        /** If the first few are all those that were told up to some minute. */
        boolean areAllOfTheirMinutes(int known) {
            return known == 0 || minuteOf(known) != minuteOf(known - 1);
        }

        int knownAt(int minute) {
            int known = size;
            while (known > 0 && minutes[known - 1] > minute) {
                known--;
            }
            return known;
        }

        /** Puts what the first few tell of a kind into a row, the latest one of each last. */
        void fill(int kind, int known, int[] row) {
            for (int i = 0; i < known && i < size; i++) {
                if (kinds[i] == kind && within(who[i], 0, row.length - 1)) {
                    row[who[i]] = first[i];
                }
            }
        }

        /** The last minute of an AWAY of a TEACHER, of the first few told, that a minute is in; NONE. */
        int awayUpTo(int t, int minute, int known) {
            for (int i = 0; i < known && i < size; i++) {
                if (kinds[i] == TOLD_AWAY && who[i] == t && within(minute, first[i], second[i])) {
                    return second[i];
                }
            }
            return NONE;
        }
    }

    /** THE EVENING, run through once for each number of KNOWN TELLINGS that is asked for. */
    private static final class Evening {
        private static final int RUNS = TELLINGS_MOST + 1;

        private final Rules rules;
        private final Ways ways;
        private final People people;
        private final Plan plan;
        private final Tellings tellings;
        // by how many TELLINGS are KNOWN, and by ASK
        private final int[] starts = new int[RUNS * ASKS_MOST];
        private final int[] stops = new int[RUNS * ASKS_MOST];
        private final boolean[] done = new boolean[RUNS];
        // of the run that is under way
        private int base = 0;
        private int known = 0;
        private final int[] facts = new int[FACTS];
        private final int[] pending = new int[TEACHERS];
        private final int[] teacherFree = new int[TEACHERS];
        private final int[] familyFree = new int[FAMILIES];
        private final int[] latestTeacher = new int[FAMILIES];
        private final int[] tongueFree = new int[TONGUES];
        private final int[] overs = new int[ASKS_MOST];
        private final int[] absent = new int[ASKS_MOST];
        private final int[] house = new int[FAMILIES];

        Evening(Rules rules, Ways ways, People people, Plan plan, Tellings tellings) {
            this.rules = rules;
            this.ways = ways;
            this.people = people;
            this.plan = plan;
            this.tellings = tellings;
        }

        /** To be called when something else than a TELLING changes THE EVENING. */
        void forget() {
            for (int i = 0; i < RUNS; i++) {
                done[i] = false;
            }
        }

        /** Runs THE EVENING through with so many TELLINGS KNOWN; to be called ahead of all that asks for them. */
        void makeReady(int many) {
            if (!within(many, 0, RUNS - 1) || done[many]) {
                return;
            }
            prepare(many);
            int u = 0;
            while (u < MINUTES) {
                int soonest = MINUTES;
                for (int t = 0; t < TEACHERS; t++) {
                    if (teacherFree[t] <= u) {
                        look(t, u);
                    }
                    soonest = Math.min(soonest, teacherFree[t]);
                }
                // nothing happens in minutes in which no TEACHER looks
                u = Math.max(u + 1, soonest);
            }
            done[many] = true;
        }

        private void prepare(int many) {
            known = many;
            base = many * ASKS_MOST;
            for (int a = 0; a < ASKS_MOST; a++) {
                starts[base + a] = NONE;
                stops[base + a] = NONE;
                overs[a] = NONE;
                absent[a] = 0;
            }
            for (int t = 0; t < TEACHERS; t++) {
                pending[t] = plan.laidOfTeacher(t);
                teacherFree[t] = 0;
            }
            for (int f = 0; f < FAMILIES; f++) {
                familyFree[f] = 0;
                latestTeacher[f] = NONE;
                house[f] = leastOf(people.familySlots(f)) * rules.slotMinutes();
            }
            for (int k = 0; k < TONGUES; k++) {
                tongueFree[k] = 0;
            }
            tellings.fill(TOLD_OVER, known, overs);
            tellings.fill(TOLD_ABSENT, known, absent);
            tellings.fill(TOLD_COMES, known, house);
        }

        private void look(int t, int u) {
            if (pending[t] == 0) {
                teacherFree[t] = MINUTES;
                return;
            }
            int front = leastOf(pending[t]);
            int due = front * rules.slotMinutes();
            if (u < due) {
                teacherFree[t] = due;
                return;
            }
            int away = tellings.awayUpTo(t, u, known);
            if (away != NONE) {
                teacherFree[t] = away + 1;
                return;
            }
            int a = plan.askIn(t, front);
            Policy policy = ways.policyOf(t);
            int line = NONE;
            if (policy != null) {
                gatherFacts(a, u);
                line = policy.lineThatHolds(facts);
            }
            if (policy == null || line == NONE) {
                actPlainly(a, u, u - due);
            } else {
                act(policy.actOf(line), policy.actNumberOf(line), a, u);
            }
        }

        private void gatherFacts(int a, int u) {
            int t = plan.teacherOf(a);
            int slot = rules.slotMinutes();
            int waiting = 0;
            for (int i = 0; i < SLOTS && i * slot <= u; i++) {
                if (has(pending[t], i) && isHere(plan.askIn(t, i), u)) {
                    waiting++;
                }
            }
            facts[FACT_LATE] = u - plan.slotOf(a) * slot;
            facts[FACT_WAITING] = waiting;
            facts[FACT_LEFT] = Integer.bitCount(pending[t]);
            facts[FACT_MUST] = plan.isMust(a) ? 1 : 0;
            facts[FACT_HERE] = isHere(a, u) ? 1 : 0;
            facts[FACT_SLOT] = plan.slotOf(a);
        }

        private void actPlainly(int a, int u, int late) {
            if (isHere(a, u)) {
                meet(a, u, fullMinutes(a));
            } else if (late > rules.told(LATE)) {
                drop(a);
            }
        }

        private void act(int act, int n, int a, int u) {
            switch (act) {
                case ACT_SKIP:
                    drop(a);
                    break;
                case ACT_FULL:
                    meetIfHere(a, u, fullMinutes(a));
                    break;
                case ACT_SHORT:
                    meetIfHere(a, u, Math.min(n, rules.slotMinutes()));
                    break;
                case ACT_PAUSE:
                    teacherFree[plan.teacherOf(a)] = u + n;
                    break;
                case ACT_SWAP:
                    meetOneBehind(a, u);
                    break;
                default:
                    break;
            }
        }

        private void meetOneBehind(int a, int u) {
            int t = plan.teacherOf(a);
            for (int slot = plan.slotOf(a) + 1; slot < SLOTS; slot++) {
                int other = plan.askIn(t, slot);
                if (has(pending[t], slot) && isHere(other, u)) {
                    meet(other, u, fullMinutes(other));
                    return;
                }
            }
        }

        private boolean isHere(int a, int u) {
            if (!plan.isAsk(a)) {
                return false;
            }
            int f = plan.familyOf(a);
            if (absent[a] != 0 || u < house[f] || u < familyFree[f] || u < tongueFree[people.tongueOf(f)]) {
                return false;
            }
            int latest = latestTeacher[f];
            return latest == NONE || u >= familyFree[f] + people.walkBetween(latest, plan.teacherOf(a));
        }

        private int fullMinutes(int a) {
            int over = overs[a] != NONE ? overs[a] : ways.usualOver(plan.teacherOf(a));
            return rules.slotMinutes() + over;
        }

        private void meetIfHere(int a, int u, int minutes) {
            if (isHere(a, u)) {
                meet(a, u, minutes);
            }
        }

        private void meet(int a, int u, int minutes) {
            int f = plan.familyOf(a);
            int t = plan.teacherOf(a);
            int stop = u + minutes;
            starts[base + a] = u;
            stops[base + a] = stop;
            teacherFree[t] = stop;
            familyFree[f] = stop;
            latestTeacher[f] = t;
            // TONGUE 0 needs no interpreter, so nobody is kept from it
            if (people.tongueOf(f) > 0) {
                tongueFree[people.tongueOf(f)] = stop;
            }
            pending[t] &= ~(1 << plan.slotOf(a));
        }

        /** An ASK that is MISSED is in front no more. */
        private void drop(int a) {
            pending[plan.teacherOf(a)] &= ~(1 << plan.slotOf(a));
        }

        /** The minute at which an ASK begins with so many TELLINGS KNOWN; NONE if MISSED, or not LAID. */
        int startOf(int a, int known) {
            int at = known * ASKS_MOST + a;
            return within(at, 0, RUNS * ASKS_MOST - 1) ? starts[at] : NONE;
        }

        int stopOf(int a, int known) {
            int at = known * ASKS_MOST + a;
            return within(at, 0, RUNS * ASKS_MOST - 1) ? stops[at] : NONE;
        }

        int missed(int known) {
            int n = 0;
            for (int a = 0; a < plan.asks(); a++) {
                if (plan.isLaid(a) && startOf(a, known) == NONE) {
                    n++;
                }
            }
            return n;
        }

        int lastStop(int known) {
            int last = 0;
            for (int a = 0; a < plan.asks(); a++) {
                last = Math.max(last, stopOf(a, known));
            }
            return last;
        }

        int offAt(int minute, int known) {
            int sum = 0;
            for (int a = 0; a < plan.asks(); a++) {
                int start = startOf(a, known);
                if (plan.isLaid(a) && (start == NONE || start > minute)) {
                    sum += howFar(start, startOf(a, tellings.size()));
                }
            }
            return sum;
        }

        private static int howFar(int start, int other) {
            if (start == NONE || other == NONE) {
                return start == other ? 0 : MISSED_IN_ONE;
            }
            return Math.abs(start - other);
        }

        int nextOf(int f, int minute, int known) {
            int next = NONE;
            int soonest = MINUTES;
            for (int a = 0; a < plan.asks(); a++) {
                int start = startOf(a, known);
                if (plan.familyOf(a) == f && start > minute && start < soonest) {
                    next = a;
                    soonest = start;
                }
            }
            return next;
        }

        int messagesTo(int f) {
            int sum = 0;
            int before = 0;
            for (int now = 1; now <= tellings.size(); now++) {
                if (tellings.areAllOfTheirMinutes(now)) {
                    if (isMessage(f, tellings.minuteOf(now - 1), before, now)) {
                        sum++;
                    }
                    before = now;
                }
            }
            return sum;
        }

        private boolean isMessage(int f, int minute, int before, int now) {
            int old = nextOf(f, minute, before);
            int next = nextOf(f, minute, now);
            if (old != next) {
                return true;
            }
            return next != NONE && howFar(startOf(old, before), startOf(next, now)) >= MESSAGE_FROM;
        }
    }

    private static final class Notes {
        private final Plan plan;
        private final int[] bytes = new int[ASKS_MOST * NOTE_MOST];
        private final int[] lengths = new int[ASKS_MOST];
        private final int[] let = new int[ASKS_MOST];
        private final int[] found = new int[ASKS_MOST];
        private int foundSize = 0;
        private int size = 0;

        Notes(Plan plan) {
            this.plan = plan;
        }

        int size() {
            return size;
        }

        /** How many bytes the NOTE has; NONE if the tape holds none, and an older one stays. */
        int takeNote(int a, Tape tape) {
            if (!isNote(tape) || !within(a, 0, ASKS_MOST - 1)) {
                return NONE;
            }
            if (lengths[a] == 0) {
                size++;
            }
            for (int i = 0; i < tape.size() && i < NOTE_MOST; i++) {
                bytes[a * NOTE_MOST + i] = tape.byteAt(i);
            }
            lengths[a] = tape.size();
            return tape.size();
        }

        private static boolean isNote(Tape tape) {
            if (!within(tape.size(), 1, NOTE_MOST)) {
                return false;
            }
            for (int i = 0; i < tape.size(); i++) {
                if (!within(tape.byteAt(i), 32, 126)) {
                    return false;
                }
            }
            return true;
        }

        /** If it was otherwise. */
        boolean setLet(int a, int t, boolean is) {
            if (has(let[a], t) == is) {
                return false;
            }
            let[a] ^= 1 << t;
            return true;
        }

        boolean mayRead(int t, int a) {
            return plan.teacherOf(a) == t || has(let[a], t);
        }

        int byteOf(int a, int i) {
            return within(i, 0, lengths[a] - 1) ? bytes[a * NOTE_MOST + i] : NONE;
        }

        /** How many ASKS a TEACHER has FOUND; NONE if the tape holds no word, and the older ones stay. */
        int search(int t, Tape tape) {
            if (!isWord(tape)) {
                return NONE;
            }
            foundSize = 0;
            for (int a = 0; a < plan.asks(); a++) {
                if (lengths[a] > 0 && mayRead(t, a) && says(a, tape)) {
                    found[foundSize] = a;
                    foundSize++;
                }
            }
            return foundSize;
        }

        int foundAt(int i) {
            return i >= 0 && i < foundSize ? found[i] : NONE;
        }

        private static boolean isWord(Tape tape) {
            if (!within(tape.size(), 1, WORD_MOST)) {
                return false;
            }
            for (int i = 0; i < tape.size(); i++) {
                if (!isLetter(tape.byteAt(i))) {
                    return false;
                }
            }
            return true;
        }

        /** If some run of letters in the NOTE of an ASK is just the word. */
        private boolean says(int a, Tape word) {
            int from = 0;
            for (int i = 0; i <= lengths[a]; i++) {
                if (!isLetter(byteOf(a, i))) {
                    if (i - from == word.size() && isSame(a, from, word)) {
                        return true;
                    }
                    from = i + 1;
                }
            }
            return false;
        }

        private boolean isSame(int a, int from, Tape word) {
            for (int i = 0; i < word.size(); i++) {
                if (small(byteOf(a, from + i)) != small(word.byteAt(i))) {
                    return false;
                }
            }
            return true;
        }

        private static boolean isLetter(int b) {
            return within(small(b), 'a', 'z');
        }

        private static int small(int b) {
            return within(b, 'A', 'Z') ? b + 32 : b;
        }
    }
}
