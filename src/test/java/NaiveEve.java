import java.util.ArrayList;
import java.util.Arrays;
import java.util.List;

/** The document told over once more, as slow and plain as can be, to hold ParentEve against. */
final class NaiveEve {
    static final int NONE = -1, RANGE = -2, FULL = -3, STATE = -4;

    static final class Ask {
        int f, t, slot = NONE;
        boolean must;
        String note = null;
        boolean[] let = new boolean[10];
    }

    static final class Line {
        List<String[]> conds = new ArrayList<>();
        String act;
        int n;
    }

    static final class Telling {
        String kind;
        int minute, who, x, y;
    }

    static final class Fault extends RuntimeException {
        private static final long serialVersionUID = 1L;
        final int kind, place;

        Fault(int kind, int place) {
            super(null, null, false, false);
            this.kind = kind;
            this.place = place;
        }
    }

    final List<Integer> tape = new ArrayList<>();
    int[] rules = {10, 2, 1, 15, 0, 0};
    List<List<Line>> policies = new ArrayList<>();
    int[] follows = new int[10];
    int faultKind = 0, faultPlace = NONE;
    int[] room = new int[10], floor = new int[10], tFrom = new int[10], tTo = new int[10];
    int[] fFrom = new int[15], fTo = new int[15], tongue = new int[15], wFrom = new int[15], wTo = new int[15], years = new int[15];
    boolean[][] apart = new boolean[15][15];
    List<Ask> asks = new ArrayList<>();
    List<List<Integer>> habits = new ArrayList<>();
    boolean begun = false;
    List<Telling> tellings = new ArrayList<>();
    List<Integer> found = new ArrayList<>();

    NaiveEve() {
        for (int p = 0; p < 4; p++) policies.add(new ArrayList<>());
        for (int t = 0; t < 10; t++) { habits.add(new ArrayList<>()); tTo[t] = 19; follows[t] = NONE; }
        for (int f = 0; f < 15; f++) { fTo[f] = 19; wTo[f] = 19; }
    }

    // ---- the tape and texts

    int feed(int a, int b, int c, int d, int e) {
        if (tape.size() > 380) return FULL;
        for (int w : new int[] {a, b, c, d, e})
            for (int i = 3; i >= 0; i--) tape.add(w >> 8 * i & 255);
        return tape.size();
    }

    int end(int n) {
        if (n < 0 || n > tape.size()) return NONE;
        while (tape.size() > n) tape.remove(tape.size() - 1);
        return n;
    }

    private String takeTape() {
        StringBuilder text = new StringBuilder();
        for (int b : tape) text.append((char) b);
        tape.clear();
        return text.toString();
    }

    private String text;
    private int at, start;

    /** The next TOKEN: "" at the end, a blank in front of one that is none. */
    private String token() {
        while (at < text.length() && (text.charAt(at) == ' ' || text.charAt(at) == '\n')) at++;
        start = at;
        if (at == text.length()) return "";
        while (at < text.length() && text.charAt(at) >= 'a' && text.charAt(at) <= 'z') at++;
        if (at > start) return text.substring(start, at);
        while (at < text.length() && text.charAt(at) >= '0' && text.charAt(at) <= '9') at++;
        if (at > start + 3) return " ";
        if (at > start) return text.substring(start, at);
        at++;
        return text.charAt(start) == ';' ? ";" : " ";
    }

    private String oneOf(String... words) {
        String token = token();
        if (!Arrays.asList(words).contains(token)) throw new Fault(1, start);
        return token;
    }

    private int number(int least, int most) {
        String token = token();
        if (token.isEmpty() || token.charAt(0) < '0' || token.charAt(0) > '9') throw new Fault(1, start);
        int n = Integer.parseInt(token);
        if (n < least || n > most) throw new Fault(2, start);
        return n;
    }

    private boolean anyLaid() {
        for (Ask a : asks) if (a.slot != NONE) return true;
        return false;
    }

    private void open(String all) {
        text = all;
        at = 0;
        start = 0;
        faultKind = 0;
        faultPlace = NONE;
    }

    int rules() {
        String all = takeTape();
        if (begun || anyLaid()) return STATE;
        open(all);
        List<String> words = Arrays.asList("slot", "floor", "door", "late", "rest", "apart");
        int[] now = {10, 2, 1, 15, 0, 0};
        int[] most = {30, 20, 20, 99, 9, 9};
        List<String> told = new ArrayList<>();
        try {
            for (String word = token(); !word.isEmpty(); word = token()) {
                int i = words.indexOf(word);
                if (i < 0) throw new Fault(1, start);
                if (told.contains(word)) throw new Fault(3, start);
                told.add(word);
                now[i] = number(i == 0 ? 1 : 0, most[i]);
                oneOf(";");
            }
        } catch (Fault fault) {
            faultKind = fault.kind;
            faultPlace = fault.place;
            return NONE;
        }
        rules = now;
        return told.size();
    }

    int rule(int what) { return what < 0 || what > 5 ? -9 : rules[what]; }

    int policy(int p) {
        String all = takeTape();
        if (p < 0 || p > 3) return RANGE;
        if (begun) return STATE;
        open(all);
        List<Line> lines = new ArrayList<>();
        try {
            for (String word = token(); !word.isEmpty(); word = token()) {
                if (!word.equals("when")) throw new Fault(1, start);
                if (lines.size() == 8) throw new Fault(4, start);
                Line line = new Line();
                String join;
                do {
                    if (line.conds.size() == 4) throw new Fault(4, start);
                    String fact = oneOf("late", "waiting", "left", "must", "here", "slot");
                    String test = oneOf("above", "below", "is");
                    line.conds.add(new String[] {fact, test, "" + number(0, 999)});
                    join = oneOf("and", "do");
                } while (join.equals("and"));
                line.act = oneOf("skip", "full", "wait", "swap", "short", "pause");
                if (line.act.equals("short") || line.act.equals("pause")) line.n = number(1, 30);
                oneOf(";");
                lines.add(line);
            }
        } catch (Fault fault) {
            faultKind = fault.kind;
            faultPlace = fault.place;
            return NONE;
        }
        policies.set(p, lines);
        return lines.size();
    }

    int follow(int t, int p) {
        if (!isT(t) || p < -1 || p > 3) return RANGE;
        int old = follows[t];
        follows[t] = p;
        return old;
    }

    int fault(int what) { return what == 0 ? faultKind : what == 1 ? faultPlace : NONE; }

    // ---- who is there

    private static boolean isT(int t) { return t >= 0 && t < 10; }
    private static boolean isF(int f) { return f >= 0 && f < 15; }
    private static boolean isS(int from, int to) { return from >= 0 && from <= to && to <= 19; }
    private boolean isA(int a) { return a >= 0 && a < asks.size(); }
    private boolean fixed() { return begun || anyLaid(); }

    int room(int t, int r, int fl) {
        if (!isT(t) || r < 0 || r > 9 || fl < 0 || fl > 9) return RANGE;
        if (fixed()) return STATE;
        room[t] = r;
        floor[t] = fl;
        return 1;
    }

    int teacher(int t, int from, int to) {
        if (!isT(t) || !isS(from, to)) return RANGE;
        if (fixed()) return STATE;
        tFrom[t] = from;
        tTo[t] = to;
        return 1;
    }

    int family(int f, int from, int to, int k) {
        if (!isF(f) || !isS(from, to) || k < 0 || k > 3) return RANGE;
        if (fixed()) return STATE;
        fFrom[f] = from;
        fTo[f] = to;
        tongue[f] = k;
        return 1;
    }

    int wish(int f, int from, int to, int y) {
        if (!isF(f) || !isS(from, to) || y < 0 || y > 9) return RANGE;
        if (fixed()) return STATE;
        wFrom[f] = from;
        wTo[f] = to;
        years[f] = y;
        return 1;
    }

    int apart(int f, int g, boolean is) {
        if (!isF(f) || !isF(g) || f == g) return RANGE;
        if (fixed()) return STATE;
        int answer = apart[f][g] == is ? 0 : 1;
        apart[f][g] = is;
        apart[g][f] = is;
        return answer;
    }

    int walk(int t, int u) {
        if (!isT(t) || !isT(u)) return RANGE;
        int minutes = rules[1] * Math.abs(floor[t] - floor[u]);
        if (room[t] != room[u] || floor[t] != floor[u]) minutes += rules[2];
        return minutes;
    }

    // ---- asks

    int ask(int f, int t, boolean must) {
        if (!isF(f) || !isT(t)) return RANGE;
        if (begun) return STATE;
        for (Ask a : asks) if (a.f == f && a.t == t) return STATE;
        if (asks.size() == 40) return FULL;
        Ask a = new Ask();
        a.f = f;
        a.t = t;
        a.must = must;
        asks.add(a);
        return asks.size() - 1;
    }

    private boolean mayBe(int number, int slot) {
        Ask a = asks.get(number);
        if (slot < fFrom[a.f] || slot > fTo[a.f] || slot < tFrom[a.t] || slot > tTo[a.t]) return false;
        boolean[] taught = new boolean[20];
        for (Ask b : asks) {
            if (b == a || b.slot == NONE) continue;
            if (b.t == a.t) taught[b.slot] = true;
            if (b.slot == slot && (b.f == a.f || b.t == a.t || tongue[a.f] != 0 && tongue[a.f] == tongue[b.f])) return false;
            int between = Math.abs(b.slot - slot) - 1;
            if (b.f == a.f && between < (int) Math.ceil(walk(a.t, b.t) / (double) rules[0])) return false;
            if (apart[a.f][b.f] && Math.abs(b.slot - slot) <= rules[5]) return false;
        }
        taught[slot] = true;
        int row = 0;
        for (int s = 0; s < 20 && rules[4] > 0; s++) {
            row = taught[s] ? row + 1 : 0;
            if (row > rules[4]) return false;
        }
        return true;
    }

    int may(int a, int slot) {
        if (!isA(a) || slot < 0 || slot > 19) return RANGE;
        if (asks.get(a).slot != NONE) return STATE;
        return mayBe(a, slot) ? 1 : 0;
    }

    int lay(int a, int slot) {
        if (!isA(a) || slot < 0 || slot > 19) return RANGE;
        if (begun || asks.get(a).slot != NONE) return STATE;
        if (!mayBe(a, slot)) return 0;
        asks.get(a).slot = slot;
        return 1;
    }

    int lift(int a) {
        if (!isA(a)) return RANGE;
        if (begun || asks.get(a).slot == NONE) return STATE;
        int slot = asks.get(a).slot;
        asks.get(a).slot = NONE;
        return slot;
    }

    int layAll() {
        if (begun) return STATE;
        List<Integer> order = new ArrayList<>();
        for (int a = 0; a < asks.size(); a++) if (asks.get(a).slot == NONE) order.add(a);
        order.sort((x, y) -> {
            Ask a = asks.get(x), b = asks.get(y);
            if (a.must != b.must) return a.must ? -1 : 1;
            if (years[a.f] != years[b.f]) return years[b.f] - years[a.f];
            return x - y;
        });
        int came = 0;
        for (int n : order) {
            Ask a = asks.get(n);
            int slot = NONE;
            for (int s = wFrom[a.f]; s <= wTo[a.f] && slot == NONE; s++) if (mayBe(n, s)) slot = s;
            for (int s = 0; s < 20 && slot == NONE; s++) if (mayBe(n, s)) slot = s;
            a.slot = slot;
            if (slot != NONE) came++;
        }
        return came;
    }

    private int[] value() {
        int[] v = new int[4];
        for (Ask a : asks) {
            if (a.slot == NONE) continue;
            if (a.must) v[0]++;
            v[1]++;
            if (a.slot >= wFrom[a.f] && a.slot <= wTo[a.f]) v[3] += 1 + years[a.f];
        }
        for (int f = 0; f < 15; f++) v[2] += Math.max(0, waits(f));
        return v;
    }

    private static boolean isGreater(int[] v, int[] w) {
        if (v[0] != w[0]) return v[0] > w[0];
        if (v[1] != w[1]) return v[1] > w[1];
        if (v[2] != w[2]) return v[2] < w[2];
        return v[3] > w[3];
    }

    private int[] bestValue, bestRow;

    private void tryAll(List<Integer> set, int i, int[] row, int least) {
        if (i == set.size()) {
            int[] v = value();
            if (bestValue == null || isGreater(v, bestValue)) {
                bestValue = v;
                bestRow = row.clone();
            }
            return;
        }
        for (int s = 0; s <= 20; s++) {
            row[i] = s;
            if (s == 20) {
                tryAll(set, i + 1, row, least);
            } else if (s >= least && mayBe(set.get(i), s)) {
                asks.get(set.get(i)).slot = s;
                tryAll(set, i + 1, row, least);
                asks.get(set.get(i)).slot = NONE;
            }
        }
    }

    private int layBest(List<Integer> set, int least) {
        bestValue = null;
        tryAll(set, 0, new int[set.size()], least);
        int came = 0;
        for (int i = 0; i < set.size(); i++) {
            if (bestRow[i] < 20) {
                asks.get(set.get(i)).slot = bestRow[i];
                came++;
            }
        }
        return came;
    }

    int best(int set) {
        if (set < 1) return RANGE;
        List<Integer> list = new ArrayList<>();
        for (int a = 0; a < 32; a++) {
            if ((set >> a & 1) == 0) continue;
            if (a >= 30 || !isA(a)) return RANGE;
            list.add(a);
        }
        if (list.size() > 4) return FULL;
        if (begun) return STATE;
        for (int a : list) if (asks.get(a).slot != NONE) return STATE;
        return layBest(list, 0);
    }

    int settle() {
        if (begun) return STATE;
        int done = 0;
        while (done < 30) {
            int[] best = value();
            int[] change = null;
            int n = asks.size();
            for (int laid = 0; laid < 2; laid++) {
                for (int a = 0; a < n; a++) {
                    int old = asks.get(a).slot;
                    if ((old != NONE) != (laid == 1)) continue;
                    for (int s = 0; s < 20; s++) {
                        if (s == old || !mayBe(a, s)) continue;
                        asks.get(a).slot = s;
                        if (isGreater(value(), best)) {
                            best = value();
                            change = new int[] {a, s, NONE, NONE};
                        }
                        asks.get(a).slot = old;
                    }
                }
            }
            for (int a = 0; a < n; a++) {
                for (int b = a + 1; b < n; b++) {
                    int x = asks.get(a).slot, y = asks.get(b).slot;
                    if (x == NONE || y == NONE) continue;
                    asks.get(a).slot = y;
                    asks.get(b).slot = x;
                    if (isGreater(value(), best) && mayBe(a, y) && mayBe(b, x)) {
                        best = value();
                        change = new int[] {a, y, b, x};
                    }
                    asks.get(a).slot = x;
                    asks.get(b).slot = y;
                }
            }
            if (change == null) break;
            asks.get(change[0]).slot = change[1];
            if (change[2] != NONE) asks.get(change[2]).slot = change[3];
            done++;
        }
        return done;
    }

    int about(int a, int what) {
        if (!isA(a) || what < 0 || what > 3) return -9;
        Ask x = asks.get(a);
        return new int[] {x.f, x.t, x.must ? 1 : 0, x.slot}[what];
    }

    int waits(int f) {
        if (!isF(f)) return RANGE;
        int first = 20, last = -1, n = 0;
        for (Ask a : asks) {
            if (a.f != f || a.slot == NONE) continue;
            first = Math.min(first, a.slot);
            last = Math.max(last, a.slot);
            n++;
        }
        return n == 0 ? NONE : last - first + 1 - n;
    }

    int value(int what) { return what < 0 || what > 3 ? NONE : value()[what]; }

    // ---- the evening

    int habit(int t, int minutes) {
        if (!isT(t) || minutes < 0 || minutes > 60) return RANGE;
        if (habits.get(t).size() == 20) return FULL;
        habits.get(t).add(minutes);
        return habits.get(t).size();
    }

    int foretold(int t) {
        if (!isT(t)) return RANGE;
        List<Integer> all = new ArrayList<>(habits.get(t));
        if (all.isEmpty()) return 0;
        all.sort(null);
        return all.size() % 2 == 1 ? all.get(all.size() / 2) : all.get(all.size() / 2 - 1);
    }

    int begin() {
        if (begun) return STATE;
        begun = true;
        int n = 0;
        for (Ask a : asks) if (a.slot != NONE) n++;
        return n;
    }

    private boolean isM(int minute) { return minute >= 0 && minute < 800; }

    private boolean canTell(int minute) {
        return isM(minute) && (tellings.isEmpty() || minute >= tellings.get(tellings.size() - 1).minute);
    }

    private int tell(String kind, int minute, int who, int x, int y) {
        if (tellings.size() == 80) return FULL;
        Telling t = new Telling();
        t.kind = kind;
        t.minute = minute;
        t.who = who;
        t.x = x;
        t.y = y;
        tellings.add(t);
        return tellings.size();
    }

    int over(int minute, int a, int n) {
        if (!canTell(minute) || !isA(a) || n < 0 || n > 60) return RANGE;
        if (!begun || asks.get(a).slot == NONE) return STATE;
        return tell("over", minute, a, n, 0);
    }

    int absent(int minute, int a, boolean is) {
        if (!canTell(minute) || !isA(a)) return RANGE;
        if (!begun || asks.get(a).slot == NONE) return STATE;
        return tell("absent", minute, a, is ? 1 : 0, 0);
    }

    int comes(int minute, int f, int from) {
        if (!canTell(minute) || !isF(f) || !isM(from)) return RANGE;
        if (!begun) return STATE;
        return tell("comes", minute, f, from, 0);
    }

    int away(int minute, int t, int from, int to) {
        if (!canTell(minute) || !isT(t) || !isM(from) || !isM(to) || from > to) return RANGE;
        if (!begun) return STATE;
        return tell("away", minute, t, from, to);
    }

    // THE EVENING as it is KNOWN: begin[a], stop[a] (NONE), gone[a] (begun or MISSED)
    private int[] begin, stop;
    private boolean[] gone;
    private int knownAt;

    /** The latest of a kind of somebody that is KNOWN; null. */
    private Telling latest(String kind, int who) {
        Telling last = null;
        for (Telling t : tellings) if (t.minute <= knownAt && t.kind.equals(kind) && t.who == who) last = t;
        return last;
    }

    private boolean goesOn(int a, int u) { return begin[a] != NONE && begin[a] <= u && u < stop[a]; }

    private boolean isHere(int n, int u) {
        Ask a = asks.get(n);
        Telling absent = latest("absent", n);
        if (absent != null && absent.x == 1) return false;
        Telling comes = latest("comes", a.f);
        if (u < (comes != null ? comes.x : fFrom[a.f] * rules[0])) return false;
        int last = NONE;
        for (int b = 0; b < asks.size(); b++) {
            Ask other = asks.get(b);
            if (goesOn(b, u) && (other.f == a.f || tongue[a.f] > 0 && tongue[other.f] == tongue[a.f])) return false;
            if (other.f == a.f && begin[b] != NONE && (last == NONE || begin[b] > begin[last])) last = b;
        }
        return last == NONE || u - stop[last] >= walk(asks.get(last).t, a.t);
    }

    /** MEETINGS of a TEACHER neither begun nor MISSED, by SLOT. */
    private List<Integer> leftOf(int t) {
        List<Integer> left = new ArrayList<>();
        for (int a = 0; a < asks.size(); a++) if (asks.get(a).t == t && asks.get(a).slot != NONE && !gone[a]) left.add(a);
        left.sort((x, y) -> asks.get(x).slot - asks.get(y).slot);
        return left;
    }

    private void start(int a, int u, int minutes) {
        begin[a] = u;
        stop[a] = u + minutes;
        gone[a] = true;
    }

    private int full(int a) {
        Telling over = latest("over", a);
        return rules[0] + (over != null ? over.x : foretold(asks.get(a).t));
    }

    private void run(int minute) {
        knownAt = minute;
        int n = asks.size();
        begin = new int[n];
        stop = new int[n];
        gone = new boolean[n];
        Arrays.fill(begin, NONE);
        Arrays.fill(stop, NONE);
        int[] pausedTo = new int[10];
        for (int u = 0; u < 800; u++) {
            for (int t = 0; t < 10; t++) {
                boolean busy = u < pausedTo[t];
                for (int a = 0; a < n; a++) busy |= asks.get(a).t == t && goesOn(a, u);
                for (Telling x : tellings) busy |= x.minute <= minute && x.kind.equals("away") && x.who == t && x.x <= u && u <= x.y;
                List<Integer> left = leftOf(t);
                if (busy || left.isEmpty()) continue;
                int front = left.get(0);
                int late = u - asks.get(front).slot * rules[0];
                if (late < 0) continue;
                Line line = lineFor(t, front, left, late, u);
                boolean here = isHere(front, u);
                if (line == null) {
                    if (here) start(front, u, full(front));
                    else if (late > rules[3]) gone[front] = true;
                } else if (line.act.equals("skip")) {
                    gone[front] = true;
                } else if (line.act.equals("full")) {
                    if (here) start(front, u, full(front));
                } else if (line.act.equals("short")) {
                    if (here) start(front, u, Math.min(line.n, rules[0]));
                } else if (line.act.equals("pause")) {
                    pausedTo[t] = u + line.n;
                } else if (line.act.equals("swap")) {
                    for (int b : left.subList(1, left.size())) {
                        if (isHere(b, u)) {
                            start(b, u, full(b));
                            break;
                        }
                    }
                }
            }
        }
    }

    private Line lineFor(int t, int front, List<Integer> left, int late, int u) {
        if (follows[t] == NONE) return null;
        for (Line line : policies.get(follows[t])) {
            boolean all = true;
            for (String[] cond : line.conds) {
                int fact = 0;
                switch (cond[0]) {
                    case "late": fact = late; break;
                    case "waiting": for (int a : left) if (asks.get(a).slot * rules[0] <= u && isHere(a, u)) fact++; break;
                    case "left": fact = left.size(); break;
                    case "must": fact = asks.get(front).must ? 1 : 0; break;
                    case "here": fact = isHere(front, u) ? 1 : 0; break;
                    default: fact = asks.get(front).slot;
                }
                int n = Integer.parseInt(cond[2]);
                all &= cond[1].equals("above") ? fact > n : cond[1].equals("below") ? fact < n : fact == n;
            }
            if (all) return line;
        }
        return null;
    }

    int meeting(int a, int minute, int what) {
        if (!isA(a) || !isM(minute) || what < 0 || what > 3) return RANGE;
        if (!begun || asks.get(a).slot == NONE) return STATE;
        run(minute);
        return new int[] {begin[a], stop[a], begin[a] == NONE ? 1 : 0, stop[a] - begin[a]}[what];
    }

    int off(int minute) {
        if (!isM(minute)) return RANGE;
        if (!begun) return STATE;
        run(799);
        int[] last = begin;
        run(minute);
        int sum = 0;
        for (int a = 0; a < asks.size(); a++) {
            if (asks.get(a).slot == NONE || begin[a] != NONE && begin[a] <= minute) continue;
            if ((begin[a] == NONE) != (last[a] == NONE)) sum += 30;
            else if (begin[a] != NONE) sum += Math.abs(begin[a] - last[a]);
        }
        return sum;
    }

    /** {ASK, its beginning} by what is KNOWN at one minute, behind another. */
    private int[] nextOne(int f, int minute, int known) {
        run(known);
        int next = NONE;
        for (int a = 0; a < asks.size(); a++)
            if (asks.get(a).f == f && begin[a] > minute && (next == NONE || begin[a] < begin[next])) next = a;
        return new int[] {next, next == NONE ? 0 : begin[next]};
    }

    int next(int f, int minute) {
        if (!isF(f) || !isM(minute)) return RANGE;
        if (!begun) return STATE;
        return nextOne(f, minute, minute)[0];
    }

    int messages(int f) {
        if (!isF(f)) return RANGE;
        if (!begun) return STATE;
        int sum = 0, before = -1;
        for (Telling t : tellings) {
            if (t.minute == before) continue;
            before = t.minute;
            int[] now = nextOne(f, t.minute, t.minute), old = nextOne(f, t.minute, t.minute - 1);
            if (now[0] != old[0] || Math.abs(now[1] - old[1]) >= 5) sum++;
        }
        return sum;
    }

    int mend(int minute) {
        if (!isM(minute)) return RANGE;
        if (!begun) return STATE;
        run(minute);
        List<Integer> set = new ArrayList<>();
        List<Integer> old = new ArrayList<>();
        for (int a = 0; a < asks.size(); a++) {
            if (asks.get(a).slot != NONE && begin[a] == NONE) {
                set.add(a);
                old.add(asks.get(a).slot);
            }
        }
        if (set.size() > 4) return FULL;
        for (int a : set) asks.get(a).slot = NONE;
        int least = 0;
        while (least * rules[0] < minute) least++;
        layBest(set, least);
        int unlike = 0;
        for (int i = 0; i < set.size(); i++) if (asks.get(set.get(i)).slot != old.get(i)) unlike++;
        return unlike;
    }

    // ---- notes

    int note(int a) {
        String all = takeTape();
        if (!isA(a)) return RANGE;
        if (all.isEmpty() || all.length() > 60) return NONE;
        for (char c : all.toCharArray()) if (c < 32 || c > 126) return NONE;
        asks.get(a).note = all;
        return all.length();
    }

    int let(int a, int t, boolean is) {
        if (!isA(a) || !isT(t)) return RANGE;
        boolean was = asks.get(a).let[t];
        asks.get(a).let[t] = is;
        return was == is ? 0 : 1;
    }

    private boolean mayRead(int t, Ask a) { return a.t == t || a.let[t]; }

    int read(int t, int a, int i) {
        if (!isT(t) || !isA(a)) return RANGE;
        Ask x = asks.get(a);
        if (x.note == null || !mayRead(t, x) || i < 0 || i >= x.note.length()) return NONE;
        return x.note.charAt(i);
    }

    int find(int t) {
        String word = takeTape();
        if (!isT(t)) return RANGE;
        if (!word.matches("[a-zA-Z]{1,20}")) return NONE;
        found.clear();
        for (int a = 0; a < asks.size(); a++) {
            Ask x = asks.get(a);
            if (x.note == null || !mayRead(t, x)) continue;
            for (String run : x.note.split("[^a-zA-Z]+")) {
                if (run.equalsIgnoreCase(word)) {
                    found.add(a);
                    break;
                }
            }
        }
        return found.size();
    }

    int found(int i) { return i >= 0 && i < found.size() ? found.get(i) : NONE; }

    int count(int what) {
        if (what >= 10 && what < 14) return policies.get(what - 10).size();
        int laid = 0, mustsOut = 0, missed = 0, last = 0, notes = 0;
        if (begun) run(799);
        for (int i = 0; i < asks.size(); i++) {
            Ask a = asks.get(i);
            if (a.slot != NONE) laid++;
            if (a.must && a.slot == NONE) mustsOut++;
            if (a.note != null) notes++;
            if (begun && a.slot != NONE && begin[i] == NONE) missed++;
            if (begun) last = Math.max(last, stop[i]);
        }
        int[] all = {asks.size(), laid, mustsOut, begun ? 1 : 0, tellings.size(), missed, last, tape.size(), notes};
        return what < 0 || what >= all.length ? NONE : all[what];
    }
}
