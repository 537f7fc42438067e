import java.util.ArrayDeque;
import java.util.ArrayList;
import java.util.List;
import java.util.function.IntPredicate;

/**
 * The document told once more, in another way than the program: sheets are objects, jobs are read
 * anew from their text each time, acts are Java's own super calls, faults are found by trying
 * what might follow. It is slow, and may use all of Java.
 */
final class SheetModel {
    static final int NONE = -1, BAD = -2, STATE = -3, FULL = -4;
    static final long NO = Long.MIN_VALUE;

    static final class Side {
        int page;
        boolean down;

        Side copy() {
            Side s = new Side();
            s.page = page;
            s.down = down;
            return s;
        }
    }

    static final class Sheet {
        Side upper = new Side();
        Side lower = new Side();

        Sheet copy() {
            Sheet s = new Sheet();
            s.upper = upper.copy();
            s.lower = lower.copy();
            return s;
        }

        Sheet over() {
            Side was = upper;
            upper = lower;
            lower = was;
            return this;
        }

        Sheet about() {
            upper.down = !upper.down;
            lower.down = !lower.down;
            return this;
        }
    }

    static class Tray {
        int i;
        int v;
        int ran;
        List<Integer> trace;

        int kind() { return 0; }

        Tray copy() {
            Tray t = make(kind(), i, v);
            t.ran = ran;
            return t;
        }

        Sheet from(ArrayDeque<Sheet> left) { return left.removeFirst(); }
        Sheet out(Sheet s) { return s; }
        boolean stops(int n) { return false; }
        boolean through(int n) { return false; }
        int added(int n) { return 0; }

        int feeds(int x) {
            trace.add(10);
            return x + i;
        }

        int prints(int x) {
            trace.add(11);
            return feeds(x) - v;
        }

        int tells(int x) {
            trace.add(12);
            return prints(x) * 2;
        }
    }

    static class Flipping extends Tray {
        int kind() { return 1; }
        Sheet out(Sheet s) { return s.over(); }

        int prints(int x) {
            trace.add(20);
            return super.prints(x) ^ 6;
        }
    }

    static class Turning extends Tray {
        int kind() { return 2; }
        Sheet out(Sheet s) { return s.over().about(); }

        int feeds(int x) {
            trace.add(30);
            return super.feeds(x * 3);
        }
    }

    static class Damp extends Tray {
        int kind() { return 3; }
        boolean through(int n) { return (n + 1) % (v + 2) == 0; }

        int tells(int x) {
            trace.add(40);
            return super.tells(x) + prints(1);
        }
    }

    static final class Reversing extends Flipping {
        int kind() { return 4; }
        Sheet from(ArrayDeque<Sheet> left) { return left.removeLast(); }

        int feeds(int x) {
            trace.add(50);
            return -super.feeds(x);
        }

        int prints(int x) {
            trace.add(51);
            return super.prints(x + 1);
        }
    }

    static final class Curled extends Turning {
        int kind() { return 5; }
        boolean stops(int n) { return n > v; }

        int tells(int x) {
            trace.add(60);
            return super.tells(x - i);
        }
    }

    static final class Told extends Damp {
        int[] row = new int[4];

        int kind() { return 6; }
        int added(int n) { return row[n % 4]; }

        Tray copy() {
            Told t = (Told) super.copy();
            t.row = row.clone();
            return t;
        }

        int prints(int x) {
            trace.add(70);
            return super.prints(x) + super.feeds(2);
        }

        int feeds(int x) {
            trace.add(71);
            return super.feeds(x) ^ v;
        }
    }

    static Tray make(int kind, int i, int v) {
        Tray t;
        switch (kind) {
            case 0: t = new Tray(); break;
            case 1: t = new Flipping(); break;
            case 2: t = new Turning(); break;
            case 3: t = new Damp(); break;
            case 4: t = new Reversing(); break;
            case 5: t = new Curled(); break;
            default: t = new Told(); break;
        }
        t.i = i;
        t.v = v;
        return t;
    }

    /** Reads a text from the left; what it answers is whether the whole is a job. */
    static final class Text {
        final String s;
        int at = 0;
        int from = 1;
        int till = 24;
        final List<String> skips = new ArrayList<>();
        final List<String> turns = new ArrayList<>();

        Text(String s) {
            this.s = s;
        }

        boolean isJob() {
            String[] parts = s.split(";", -1);
            if (parts.length > 10) {
                return false;
            }
            for (String part : parts) {
                if (part.matches("(from|till) [0-9]{1,2}")) {
                    int n = Integer.parseInt(part.substring(5));
                    if (part.startsWith("from")) {
                        from = n < 1 ? 1 : n;
                    } else {
                        till = n > 24 ? 24 : n;
                    }
                } else if (part.matches("(?s)(skip|turn) .*")) {
                    String e = part.substring(5);
                    if (!isAny(e, 0)) {
                        return false;
                    }
                    (part.startsWith("skip") ? skips : turns).add(e);
                } else {
                    return false;
                }
            }
            return true;
        }
    }

    /** The places of a sign that stand in no brackets; null, if brackets don't match. */
    static List<String> parts(String e, char between) {
        List<String> parts = new ArrayList<>();
        int open = 0;
        int start = 0;
        for (int i = 0; i < e.length(); i++) {
            char c = e.charAt(i);
            if (c == '(') {
                open++;
            } else if (c == ')') {
                open--;
                if (open < 0) {
                    return null;
                }
            } else if (c == between && open == 0) {
                parts.add(e.substring(start, i));
                start = i + 1;
            }
        }
        if (open != 0) {
            return null;
        }
        parts.add(e.substring(start));
        return parts;
    }

    static boolean isAny(String e, int depth) {
        List<String> or = parts(e, '|');
        if (or == null) {
            return false;
        }
        for (String t : or) {
            for (String f : parts(t, '&')) {
                if (!isOne(f, depth)) {
                    return false;
                }
            }
        }
        return true;
    }

    static boolean isOne(String f, int depth) {
        if (f.startsWith("!")) {
            return depth < 4 && isOne(f.substring(1), depth + 1);
        }
        if (f.startsWith("(") && f.endsWith(")")) {
            return depth < 4 && isAny(f.substring(1, f.length() - 1), depth + 1);
        }
        return f.matches("[potkvn][<=>][0-9]{1,2}");
    }

    static boolean any(String e, int page, Tray tray, int v, int n) {
        for (String t : parts(e, '|')) {
            boolean all = true;
            for (String f : parts(t, '&')) {
                all &= one(f, page, tray, v, n);
            }
            if (all) {
                return true;
            }
        }
        return false;
    }

    static boolean one(String f, int page, Tray tray, int v, int n) {
        if (f.startsWith("!")) {
            return !one(f.substring(1), page, tray, v, n);
        }
        if (f.startsWith("(")) {
            return any(f.substring(1, f.length() - 1), page, tray, v, n);
        }
        int left;
        switch (f.charAt(0)) {
            case 'p': left = page; break;
            case 'o': left = page % 2; break;
            case 't': left = page % 10; break;
            case 'k': left = tray.kind(); break;
            case 'v': left = v; break;
            default: left = n; break;
        }
        int right = Integer.parseInt(f.substring(2));
        char sign = f.charAt(1);
        return sign == '<' && left < right || sign == '=' && left == right
                || sign == '>' && left > right;
    }

    /** Whether a job might begin with this: some ending of the latest clause makes it one. */
    static boolean mayBegin(String s) {
        int open = 0;
        for (int i = s.lastIndexOf(';') + 1; i < s.length(); i++) {
            open += s.charAt(i) == '(' ? 1 : s.charAt(i) == ')' ? -1 : 0;
        }
        String close = ")".repeat(Math.max(open, 0));
        String[] ends = {"", "1", "=1", "p=1", " 1", " p=1", "m 1", "om 1", "rom 1", "from 1",
            "l 1", "ll 1", "ill 1", "n p=1", "rn p=1", "urn p=1", "p p=1", "ip p=1", "kip p=1"};
        for (String end : ends) {
            if (new Text(s + end + close).isJob()) {
                return true;
            }
        }
        return false;
    }

    static int fault(String s) {
        for (int i = 0; i < s.length(); i++) {
            if (!mayBegin(s.substring(0, i + 1))) {
                return i;
            }
        }
        return s.length();
    }

    static final class All {
        List<Sheet> stack = new ArrayList<>();
        List<Tray> trays = new ArrayList<>();
        List<int[]> seen = new ArrayList<>();
        List<int[]> plan = new ArrayList<>();
        List<int[]> book = new ArrayList<>();

        All copy() {
            All a = new All();
            a.stack = copyOf(stack);
            for (Tray t : trays) {
                a.trays.add(t.copy());
            }
            a.seen.addAll(seen);
            a.plan.addAll(plan);
            a.book.addAll(book);
            return a;
        }
    }

    static List<Sheet> copyOf(List<Sheet> stack) {
        List<Sheet> copy = new ArrayList<>();
        for (Sheet s : stack) {
            copy.add(s.copy());
        }
        return copy;
    }

    All now = new All();
    All image = null;
    final List<Text> jobs = new ArrayList<>();
    final StringBuilder text = new StringBuilder();
    List<Integer> trace = new ArrayList<>();
    final Object[] tapes = new Object[6];

    /** What came of a run: the pages that were printed, the sheets that were taken. */
    int printed;
    int took;

    List<Sheet> ran(List<Sheet> stack, Tray tray, int v, Text job) {
        int held = tray.v;
        tray.v = v;
        ArrayDeque<Sheet> left = new ArrayDeque<>(copyOf(stack));
        ArrayDeque<Sheet> out = new ArrayDeque<>();
        int page = job.from;
        printed = 0;
        took = 0;
        while (true) {
            int n = took;
            int p = page;
            while (p <= job.till && holds(job.skips, p, tray, v, n)) {
                p++;
            }
            page = p;
            if (page > job.till || left.isEmpty() || tray.stops(n)) {
                break;
            }
            Sheet sheet = tray.from(left);
            if (!tray.through(n)) {
                if (sheet.upper.page != 0) {
                    sheet.upper.page = 99;
                    sheet.upper.down = false;
                } else {
                    sheet.upper.page = Math.min(60, page + tray.added(n));
                    sheet.upper.down = holds(job.turns, page, tray, v, n);
                }
                printed++;
                page++;
            }
            took++;
            out.addFirst(tray.out(sheet));
        }
        tray.v = held;
        List<Sheet> then = new ArrayList<>(left);
        then.addAll(out);
        return then;
    }

    static boolean holds(List<String> clauses, int page, Tray tray, int v, int n) {
        for (String e : clauses) {
            if (any(e, page, tray, v, n)) {
                return true;
            }
        }
        return false;
    }

    List<Sheet> ran(int tray, int job) {
        return ran(now.stack, now.trays.get(tray), now.trays.get(tray).v, jobs.get(job));
    }

    static List<Sheet> wayed(List<Sheet> stack, int way) {
        List<Sheet> then = copyOf(stack);
        if (way == 1 || way == 3) {
            java.util.Collections.reverse(then);
            then.forEach(Sheet::over);
        }
        if (way == 2 || way == 3) {
            then.forEach(Sheet::about);
        }
        return then;
    }

    static boolean right(List<Sheet> stack, int i) {
        Sheet s = stack.get(i);
        return s.upper.page == 2 * i + 1 && s.lower.page == 2 * i + 2
                && !s.upper.down && !s.lower.down;
    }

    static int rights(List<Sheet> stack) {
        int n = 0;
        for (int i = 0; i < stack.size(); i++) {
            n += right(stack, i) ? 1 : 0;
        }
        return n;
    }

    static int sides(List<Sheet> stack, IntPredicate p) {
        int n = 0;
        for (Sheet s : stack) {
            n += (p.test(s.upper.page) ? 1 : 0) + (p.test(s.lower.page) ? 1 : 0);
        }
        return n;
    }

    static int on(List<Sheet> stack, int sheet, int side) {
        if (sheet >= stack.size()) {
            return 0;
        }
        return side == 0 ? stack.get(sheet).upper.page : stack.get(sheet).lower.page;
    }

    boolean tray(int t) { return t >= 0 && t < now.trays.size(); }
    boolean job(int j) { return j >= 0 && j < jobs.size(); }
    static boolean in(long x, long a, long b) { return x >= a && x <= b; }

    int tray(int kind, int v) {
        if (!in(kind, 0, 6)) return NONE;
        if (!in(v, 0, 9)) return BAD;
        if (now.trays.size() == 5) return FULL;
        now.trays.add(make(kind, now.trays.size(), v));
        return now.trays.size() - 1;
    }

    int of(int tray, int what) {
        if (!tray(tray) || !in(what, 0, 2)) return NONE;
        Tray t = now.trays.get(tray);
        return what == 0 ? t.kind() : what == 1 ? t.v : t.ran;
    }

    int row(int tray, int part, int n) {
        if (!tray(tray) || !in(part, 0, 3)) return NONE;
        if (!in(n, 0, 9)) return BAD;
        if (!(now.trays.get(tray) instanceof Told)) return STATE;
        int[] row = ((Told) now.trays.get(tray)).row;
        int was = row[part];
        row[part] = n;
        return was;
    }

    int feed(int sign) {
        if (!in(sign, 0, 127)) return BAD;
        if (text.length() == 100) return FULL;
        text.append((char) sign);
        return text.length();
    }

    int job() {
        if (jobs.size() == 6) return FULL;
        String s = text.toString();
        text.setLength(0);
        Text t = new Text(s);
        if (!t.isJob()) return -10 - fault(s);
        jobs.add(t);
        return jobs.size() - 1;
    }

    int load(int n) {
        if (!in(n, 1, 12)) return BAD;
        if (now.stack.size() + n > 12) return FULL;
        for (int i = 0; i < n; i++) now.stack.add(0, new Sheet());
        return now.stack.size();
    }

    int empty() {
        int n = now.stack.size();
        now.stack = new ArrayList<>();
        return n;
    }

    int turn(int way) {
        if (!in(way, 0, 3)) return NONE;
        now.stack = wayed(now.stack, way);
        return rights(now.stack);
    }

    int sheet(int sheet, int what) {
        if (!in(sheet, 0, now.stack.size() - 1) || !in(what, 0, 4)) return NONE;
        Sheet s = now.stack.get(sheet);
        int[] told = {s.upper.page, s.lower.page, s.upper.down ? 1 : 0, s.lower.down ? 1 : 0,
            right(now.stack, sheet) ? 1 : 0};
        return told[what];
    }

    int told(int what) {
        if (!in(what, 0, 3)) return NONE;
        if (what == 0) return rights(now.stack);
        if (what == 1) return sides(now.stack, p -> p == 99);
        if (what == 2) return sides(now.stack, p -> p == 0);
        int bits = 0;
        for (int page = 1; page <= 24; page++) {
            int it = page;
            if (sides(now.stack, p -> p == it) == 0) bits += 1 << (page - 1);
        }
        return bits;
    }

    int jobs(int job, int what) {
        if (!job(job) || !in(what, 0, 1)) return NONE;
        return what == 0 ? jobs.get(job).from : jobs.get(job).till;
    }

    int run(int tray, int job) {
        if (!tray(tray) || !job(job)) return NONE;
        now.stack = ran(tray, job);
        now.trays.get(tray).ran++;
        return printed;
    }

    int after(int tray, int job, int what) {
        if (!tray(tray) || !job(job)) return NONE;
        List<Sheet> then = ran(tray, job);
        if (what == 0) return rights(then);
        if (what == 1) return printed;
        if (what == 2) return sides(then, p -> p == 99);
        for (int s = 0; s < then.size(); s++) {
            if (what == 10 + s) return then.get(s).upper.page;
            if (what == 30 + s) return then.get(s).lower.page;
        }
        return NONE;
    }

    int best(int job) {
        if (!job(job)) return NONE;
        int most = -1;
        for (int t = 0; t < now.trays.size(); t++) most = Math.max(most, after(t, job, 0));
        for (int t = 0; t < now.trays.size(); t++) if (after(t, job, 0) == most) return t;
        return -5;
    }

    int uses(int tray, int job) {
        if (!tray(tray) || !job(job)) return NONE;
        List<Sheet> twelve = new ArrayList<>();
        for (int i = 0; i < 12; i++) twelve.add(new Sheet());
        ran(twelve, now.trays.get(tray), now.trays.get(tray).v, jobs.get(job));
        return took;
    }

    int both(int tray, int job, int way, int other, int otherJob) {
        List<Sheet> then = wayed(ran(tray, job), way);
        Tray t = now.trays.get(other);
        return rights(ran(then, t, t.v, jobs.get(otherJob)));
    }

    int way(int tray, int job, int other, int otherJob, int what) {
        if (!tray(tray) || !job(job) || !tray(other) || !job(otherJob) || !in(what, 0, 1)) {
            return NONE;
        }
        int best = 0;
        for (int way = 1; way < 4; way++) {
            if (both(tray, job, way, other, otherJob) > both(tray, job, best, other, otherJob)) {
                best = way;
            }
        }
        return what == 0 ? best : both(tray, job, best, other, otherJob);
    }

    int twice(int job, int otherJob, int what) {
        if (!job(job) || !job(otherJob) || !in(what, 0, 1)) return NONE;
        int key = -5;
        int most = 0;
        for (int k = 0; k < 500; k++) {
            int t = k / 100;
            int w = k / 10 % 10;
            int o = k % 10;
            if (!tray(t) || w > 3 || !tray(o)) continue;
            int r = both(t, job, w, o, otherJob);
            if (key < 0 || r > most) {
                key = k;
                most = r;
            }
        }
        return what == 0 ? key : most;
    }

    int find(int page) {
        if (!in(page, 1, 60)) return BAD;
        for (int k = 0; k < 120; k++) {
            if (k % 10 < 2 && k / 10 < now.stack.size()
                    && on(now.stack, k / 10, k % 10) == page) {
                return k;
            }
        }
        return -5;
    }

    static int note(List<int[]> rows, int limit, int sheet, int side, int page) {
        if (sheet == -1) {
            rows.clear();
            return 0;
        }
        if (!in(sheet, 0, 11) || !in(side, 0, 1) || !in(page, 0, 60) && page != 99) return BAD;
        if (rows.size() == limit) return FULL;
        rows.add(new int[] {sheet, side, page});
        return rows.size();
    }

    int see(int sheet, int side, int page) {
        return note(now.seen, 5, sheet, side, page);
    }

    static int otherwise(List<Sheet> stack, List<int[]> rows) {
        for (int i = 0; i < rows.size(); i++) {
            int[] r = rows.get(i);
            if (on(stack, r[0], r[1]) != r[2]) return i;
        }
        return -5;
    }

    int which(int job) {
        if (!job(job)) return NONE;
        int bits = 0;
        for (int t = 0; t < now.trays.size(); t++) {
            if (otherwise(ran(t, job), now.seen) == -5) bits += 1 << t;
        }
        return bits;
    }

    int can(int tray, int job, int what) {
        if (!tray(tray) || !job(job) || !in(what, 0, 1)) return NONE;
        List<Integer> found = new ArrayList<>();
        for (int v = 0; v < 10; v++) {
            if (otherwise(ran(now.stack, now.trays.get(tray), v, jobs.get(job)), now.seen) == -5) {
                found.add(v);
            }
        }
        return what == 0 ? found.size() : found.isEmpty() ? -5 : found.get(0);
    }

    static long part(long above, long below, int part) {
        long g = java.math.BigInteger.valueOf(above).gcd(java.math.BigInteger.valueOf(below))
                .longValue();
        return part == 0 ? above / g : below / g;
    }

    long odds(int job, int q, int part) {
        if (!job(job) || !in(q, 0, 12) || !in(part, 0, 1) || now.trays.isEmpty()) return NO;
        int n = 0;
        for (int t = 0; t < now.trays.size(); t++) n += after(t, job, 0) >= q ? 1 : 0;
        return part(n, now.trays.size(), part);
    }

    long mean(int job, int part) {
        if (!job(job) || !in(part, 0, 1) || now.trays.isEmpty()) return NO;
        int n = 0;
        for (int t = 0; t < now.trays.size(); t++) n += after(t, job, 0);
        return part(n, now.trays.size(), part);
    }

    int plan(int what, int a, int b) {
        if (what == -1) {
            now.plan.clear();
            return 0;
        }
        if (!in(what, 0, 2)) return NONE;
        if (what == 0 && (!tray(a) || !job(b))) return NONE;
        if (what == 1 && !in(a, 0, 3)) return NONE;
        if (what == 2 && !in(a, 1, 12)) return BAD;
        if (now.plan.size() == 6) return FULL;
        now.plan.add(new int[] {what, a, b});
        return now.plan.size();
    }

    int done(int what) {
        if (!in(what, 0, 1)) return NONE;
        List<Sheet> then = copyOf(now.stack);
        for (int[] r : now.plan) {
            if (r[0] == 0) {
                Tray t = now.trays.get(r[1]);
                then = ran(then, t, t.v, jobs.get(r[2]));
            } else if (r[0] == 1) {
                then = wayed(then, r[1]);
            } else {
                for (int i = 0; i < r[1] && then.size() < 12; i++) then.add(0, new Sheet());
            }
        }
        return what == 0 ? rights(then) : sides(then, p -> p == 99);
    }

    int book(int sheet, int side, int page) {
        return note(now.book, 8, sheet, side, page);
    }

    int looked() {
        return otherwise(now.stack, now.book);
    }

    int judge(int tape, int i) {
        if (!in(tape, 0, 5)) return NONE;
        Object t = tapes[tape];
        if (t != null && !(t instanceof byte[])) return -12;
        int looked = 0;
        for (Sheet s : now.stack) {
            if (t == null || i < 0 || (long) i + looked >= ((byte[]) t).length) return 100 + looked;
            if (((byte[]) t)[i + looked] != s.upper.page) return looked;
            looked++;
        }
        return -5;
    }

    int image() {
        image = now.copy();
        return now.stack.size();
    }

    int undo() {
        if (image == null) return STATE;
        now = image.copy();
        return now.stack.size();
    }

    int act(int tray, int act, int x) {
        trace = new ArrayList<>();
        if (!tray(tray) || !in(act, 0, 2)) return 0;
        Tray t = now.trays.get(tray);
        t.trace = trace;
        return act == 0 ? t.feeds(x) : act == 1 ? t.prints(x) : t.tells(x);
    }

    int trace(int i) {
        return in(i, 0, Math.min(trace.size(), 20) - 1) ? trace.get(i) : NONE;
    }

    int taken(int tray, int k) {
        if (!in(k, 0, 6)) return BAD;
        if (!tray(tray)) return -11;
        Class<?> c = make(k, 0, 0).getClass();
        Tray t = now.trays.get(tray);
        return c.isInstance(t) ? t.kind() : -12;
    }

    int count(int what) {
        if (!in(what, 0, 7)) return BAD;
        int[] all = {now.stack.size(), now.trays.size(), jobs.size(), now.seen.size(),
            now.plan.size(), now.book.size(), text.length(), trace.size()};
        return all[what];
    }

    int tape(int tape, int sort, int n) {
        if (!in(tape, 0, 5)) return NONE;
        if (sort == -1) {
            tapes[tape] = null;
            return 1;
        }
        if (!in(sort, 0, 4) || n > 60) return BAD;
        if (n < 0) return -14;
        Object[] made = {new byte[n], new short[n], new int[n], new long[n], new boolean[n]};
        tapes[tape] = made[sort];
        return 1;
    }

    int item(int tape, int i, long v) {
        if (!in(tape, 0, 5)) return NONE;
        Object t = tapes[tape];
        if (t == null) return -11;
        if (!in(i, 0, java.lang.reflect.Array.getLength(t) - 1)) return -13;
        if (t instanceof byte[]) ((byte[]) t)[i] = (byte) v;
        else if (t instanceof short[]) ((short[]) t)[i] = (short) v;
        else if (t instanceof int[]) ((int[]) t)[i] = (int) v;
        else if (t instanceof long[]) ((long[]) t)[i] = v;
        else ((boolean[]) t)[i] = v != 0;
        return 1;
    }

    long read(int tape, int i) {
        if (!in(tape, 0, 5) || tapes[tape] == null) return NO;
        Object t = tapes[tape];
        if (!in(i, 0, java.lang.reflect.Array.getLength(t) - 1)) return NO;
        if (t instanceof boolean[]) return ((boolean[]) t)[i] ? 1 : 0;
        return ((Number) java.lang.reflect.Array.get(t, i)).longValue();
    }

    int shift(int tape, int i, int other, int j, int n) {
        if (!in(tape, 0, 5) || !in(other, 0, 5)) return NONE;
        if (tapes[tape] == null || tapes[other] == null) return -11;
        try {
            System.arraycopy(tapes[tape], i, tapes[other], j, n);
        } catch (ArrayStoreException e) {
            return -12;
        } catch (IndexOutOfBoundsException e) {
            return -13;
        }
        return n;
    }
}
