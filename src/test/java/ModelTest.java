import java.util.ArrayList;
import java.util.List;
import java.util.Random;

/** Long random runs of calls, each answered by the program and by the model. Seeds are fixed. */
public final class ModelTest {
    /** Of 512 calls; the longest step and what looks at the whole come behind them yet. */
    private static final int CALLS = 512 - 110 - 90;
    private static final int[] EDGES = {Integer.MIN_VALUE, Integer.MIN_VALUE + 1, -100, -13, -1, 0,
        1, 99, 100, 101, 127, 128, Integer.MAX_VALUE - 1, Integer.MAX_VALUE};

    private final Random random;
    private final BothSidesSheet x = new BothSidesSheet();
    private final SheetModel m = new SheetModel();
    private final List<String> log = new ArrayList<>();
    private final int wild;
    private boolean wrong = false;

    private ModelTest(long seed) {
        random = new Random(seed);
        wild = random.nextInt(3) == 0 ? 4 : 40;
    }

    /** A number from a range mostly; now and then one that is a little or far outside. */
    private int some(int least, int most) {
        if (random.nextInt(wild) == 0) {
            return random.nextBoolean() ? EDGES[random.nextInt(EDGES.length)]
                    : least - 2 + random.nextInt(most - least + 5);
        }
        return least + random.nextInt(most - least + 1);
    }

    private int aTray() {
        return some(0, Math.max(0, m.now.trays.size() - 1));
    }

    private int aJob() {
        return some(0, Math.max(0, m.jobs.size() - 1));
    }

    private int aSheet() {
        return some(0, Math.max(0, m.now.stack.size() - 1));
    }

    private void same(String call, long got, long want) {
        log.add(call);
        Due.is(call, got, want);
        if (got != want) {
            wrong = true;
        }
    }

    private void twin(String text) {
        for (int i = 0; i < text.length() && !wrong; i++) {
            char c = text.charAt(i);
            same("feed(" + (int) c + ")", x.feed(c), m.feed(c));
        }
        same("job() of " + text, x.job(), m.job());
        int job = m.jobs.size() - 1;
        for (int what = 0; what < 2; what++) {
            same("jobs(" + job + ", " + what + ")", x.jobs(job, what), m.jobs(job, what));
        }
    }

    private String number() {
        return "" + (random.nextInt(6) == 0 ? random.nextInt(100) : random.nextInt(14));
    }

    private String test() {
        String letters = random.nextInt(3) == 0 ? "potkvn" : "ppoon";
        char letter = letters.charAt(random.nextInt(letters.length()));
        char sign = "<=>".charAt(random.nextInt(3));
        String right = letter == 'o' ? "" + random.nextInt(2) : number();
        return "" + letter + sign + right;
    }

    private String one(int depth) {
        int kind = random.nextInt(depth > 4 ? 2 : 4);
        if (kind == 3) {
            return "!" + one(depth + 1);
        }
        return kind == 2 ? "(" + any(depth + 1) + ")" : test();
    }

    private String any(int depth) {
        StringBuilder s = new StringBuilder(one(depth));
        while (random.nextInt(3) == 0) {
            s.append(random.nextBoolean() ? '&' : '|').append(one(depth));
        }
        return s.toString();
    }

    private String clause() {
        switch (random.nextInt(6)) {
            case 0: return "from " + number();
            case 1: return "till " + number();
            case 2: case 3: return "skip " + any(0);
            default: return "turn " + any(0);
        }
    }

    private String text() {
        StringBuilder s = new StringBuilder(clause());
        int goal = random.nextInt(8) == 0 ? 12 : 3;
        for (int i = 1; i < goal && random.nextInt(4) != 0; i++) {
            s.append(';').append(random.nextInt(8) == 0 ? "till 9" : clause());
        }
        for (int i = random.nextInt(6) - 3; i > 0; i--) {
            int at = random.nextInt(s.length() + 1);
            String sign = "" + "fromtillskipturn ;()!|&<=>01239potkvnx\n".charAt(random.nextInt(39));
            if (random.nextBoolean() || at >= s.length()) {
                s.insert(at, sign);
            } else if (random.nextBoolean()) {
                s.setCharAt(at, sign.charAt(0));
            } else {
                s.setLength(Math.max(1, at));
            }
        }
        return s.substring(0, Math.min(s.length(), 104));
    }

    /** Jobs by which sheets become right: the one half of the pages, then the other. */
    private String halves() {
        String[] some = {"skip o=0", "skip o=1", "skip o=0;till 12", "skip o=1;turn n>3",
            "skip o=0|k=4&p>6", "from 3;skip o=0", "skip !o=0;till 20", "skip o=1;till 10;turn v>5"};
        return some[random.nextInt(some.length)];
    }

    private void stackCalls() {
        int a = 0;
        int b = 0;
        int c = 0;
        switch (random.nextInt(12)) {
            case 0:
                a = some(0, 6);
                b = some(0, 9);
                same("tray(" + a + ", " + b + ")", x.tray(a, b), m.tray(a, b));
                break;
            case 1:
                a = aTray();
                b = some(0, 2);
                same("of(" + a + ", " + b + ")", x.of(a, b), m.of(a, b));
                break;
            case 2:
                a = aTray();
                b = some(0, 3);
                c = some(0, 9);
                same("row(" + a + ", " + b + ", " + c + ")", x.row(a, b, c), m.row(a, b, c));
                break;
            case 3:
                a = some(1, 8);
                same("load(" + a + ")", x.load(a), m.load(a));
                break;
            case 4:
                if (random.nextInt(3) == 0) {
                    same("empty()", x.empty(), m.empty());
                }
                break;
            case 5:
                a = some(0, 3);
                same("turn(" + a + ")", x.turn(a), m.turn(a));
                break;
            case 6: case 7:
                a = aSheet();
                b = some(0, 4);
                same("sheet(" + a + ", " + b + ")", x.sheet(a, b), m.sheet(a, b));
                break;
            case 8:
                a = some(0, 3);
                same("told(" + a + ")", x.told(a), m.told(a));
                break;
            case 9:
                a = aJob();
                b = some(0, 1);
                same("jobs(" + a + ", " + b + ")", x.jobs(a, b), m.jobs(a, b));
                break;
            default:
                a = aTray();
                b = aJob();
                same("run(" + a + ", " + b + ")", x.run(a, b), m.run(a, b));
                break;
        }
    }

    private void askedCalls() {
        int a = aTray();
        int b = aJob();
        int c = aTray();
        int d = aJob();
        int e = some(0, 1);
        switch (random.nextInt(11)) {
            case 0:
                e = new int[] {some(0, 2), 10 + aSheet(), 30 + aSheet()}[random.nextInt(3)];
                same("after(" + a + ", " + b + ", " + e + ")", x.after(a, b, e), m.after(a, b, e));
                break;
            case 1:
                same("best(" + b + ")", x.best(b), m.best(b));
                break;
            case 2:
                same("uses(" + a + ", " + b + ")", x.uses(a, b), m.uses(a, b));
                break;
            case 3:
                same("way(" + a + ", " + b + ", " + c + ", " + d + ", " + e + ")",
                        x.way(a, b, c, d, e), m.way(a, b, c, d, e));
                break;
            case 4:
                same("twice(" + b + ", " + d + ", " + e + ")", x.twice(b, d, e), m.twice(b, d, e));
                break;
            case 5:
                a = some(1, 60);
                same("find(" + a + ")", x.find(a), m.find(a));
                a = some(1, 14);
                same("find(" + a + ")", x.find(a), m.find(a));
                break;
            case 6:
                same("which(" + b + ")", x.which(b), m.which(b));
                break;
            case 7:
                same("can(" + a + ", " + b + ", " + e + ")", x.can(a, b, e), m.can(a, b, e));
                break;
            case 8:
                c = random.nextInt(3) == 0 ? some(0, 12) : some(0, 3);
                same("odds(" + b + ", " + c + ", " + e + ")", x.odds(b, c, e), m.odds(b, c, e));
                break;
            case 9:
                same("mean(" + b + ", " + e + ")", x.mean(b, e), m.mean(b, e));
                break;
            default:
                same("done(" + e + ")", x.done(e), m.done(e));
                break;
        }
    }

    /** What is on a side after some run or now, so that what is told by hand is often so. */
    private int likely(int sheet, int side) {
        int said = random.nextBoolean() ? m.after(aTray(), aJob(), (side == 0 ? 10 : 30) + sheet)
                : m.sheet(sheet, side);
        return said < 0 || random.nextInt(8) == 0 ? some(0, 60) : said;
    }

    private void handCalls() {
        int a = random.nextInt(10) == 0 ? -1 : random.nextInt(8) == 0 ? some(0, 11) : aSheet();
        int b = some(0, 1);
        int c = random.nextInt(10) == 0 ? some(98, 100) : likely(a, b);
        switch (random.nextInt(6)) {
            case 0:
                same("see(" + a + ", " + b + ", " + c + ")", x.see(a, b, c), m.see(a, b, c));
                break;
            case 1:
                same("book(" + a + ", " + b + ", " + c + ")", x.book(a, b, c), m.book(a, b, c));
                break;
            case 2:
                same("looked()", x.looked(), m.looked());
                break;
            case 3:
                if (random.nextInt(3) == 0) {
                    same("image()", x.image(), m.image());
                }
                break;
            case 4:
                if (random.nextInt(3) == 0) {
                    same("undo()", x.undo(), m.undo());
                }
                break;
            default:
                a = random.nextInt(12) == 0 ? -1 : some(0, 2);
                b = a == 0 ? aTray() : a == 1 ? some(0, 3) : some(1, 6);
                c = aJob();
                same("plan(" + a + ", " + b + ", " + c + ")", x.plan(a, b, c), m.plan(a, b, c));
                break;
        }
    }

    private void actCalls() {
        int a = aTray();
        int b = some(0, 2);
        int c = random.nextBoolean() ? random.nextInt() : some(-9, 9);
        if (random.nextBoolean()) {
            b = some(0, 6);
            same("taken(" + a + ", " + b + ")", x.taken(a, b), m.taken(a, b));
            return;
        }
        same("act(" + a + ", " + b + ", " + c + ")", x.act(a, b, c), m.act(a, b, c));
        for (int i = 0; i < 3; i++) {
            a = some(0, Math.max(0, m.count(7) - 1));
            same("trace(" + a + ")", x.trace(a), m.trace(a));
        }
        a = some(0, 7);
        same("count(" + a + ")", x.count(a), m.count(a));
    }

    private void tapeCalls() {
        int a = some(0, 2);
        int b = random.nextBoolean() ? some(0, 9) : some(0, 60);
        int c = some(0, 2);
        int d = random.nextBoolean() ? some(0, 9) : some(0, 60);
        int e = some(0, 20);
        long v = random.nextBoolean() ? random.nextLong() : some(-300, 300);
        switch (random.nextInt(6)) {
            case 0:
                if (random.nextInt(3) == 0) {
                    b = random.nextBoolean() ? 0 : some(-1, 4);
                    same("tape(" + a + ", " + b + ", " + d + ")", x.tape(a, b, d), m.tape(a, b, d));
                }
                break;
            case 1:
                same("item(" + a + ", " + b + ", " + v + ")", x.item(a, b, v), m.item(a, b, v));
                break;
            case 2:
                same("read(" + a + ", " + b + ")", x.read(a, b), m.read(a, b));
                break;
            case 3:
                same("shift(" + a + ", " + b + ", " + c + ", " + d + ", " + e + ")",
                        x.shift(a, b, c, d, e), m.shift(a, b, c, d, e));
                break;
            case 4:
                c = random.nextInt(14);
                for (int i = 0; i < c && random.nextInt(14) != 0; i++) {
                    v = m.sheet(i, 0);
                    same("item(" + a + ", " + (b + i) + ", " + v + ")", x.item(a, b + i, v),
                            m.item(a, b + i, v));
                }
                same("judge(" + a + ", " + b + ")", x.judge(a, b), m.judge(a, b));
                break;
            default:
                same("judge(" + a + ", " + b + ")", x.judge(a, b), m.judge(a, b));
                break;
        }
    }

    /** All that can be asked of what is, so that a refused or asking call can't have changed it. */
    private void whole() {
        for (int i = 0; i < 8; i++) {
            same("count(" + i + ")", x.count(i), m.count(i));
        }
        for (int i = 0; i < 12; i++) {
            for (int what = 0; what < 5; what++) {
                same("sheet(" + i + ", " + what + ")", x.sheet(i, what), m.sheet(i, what));
            }
        }
        for (int i = 0; i < 5; i++) {
            for (int what = 0; what < 3; what++) {
                same("of(" + i + ", " + what + ")", x.of(i, what), m.of(i, what));
            }
        }
        for (int i = 0; i < 4; i++) {
            same("told(" + i + ")", x.told(i), m.told(i));
        }
    }

    private void go() {
        if (random.nextInt(4) != 0) {
            int n = random.nextInt(5) + 1;
            for (int i = 0; i < n; i++) {
                int kind = random.nextInt(7);
                int v = random.nextInt(10);
                same("tray(" + kind + ", " + v + ")", x.tray(kind, v), m.tray(kind, v));
            }
            n = random.nextInt(12) + 1;
            same("load(" + n + ")", x.load(n), m.load(n));
            twin(halves());
            twin(random.nextBoolean() ? halves() : text());
        }
        for (int i = 0; i < CALLS && log.size() < CALLS && !wrong; i++) {
            int sort = random.nextInt(20);
            if (sort == 0) {
                twin(random.nextInt(3) == 0 ? halves() : text());
            } else if (sort < 6) {
                stackCalls();
            } else if (sort < 12) {
                askedCalls();
            } else if (sort < 15) {
                handCalls();
            } else if (sort < 17) {
                actCalls();
            } else {
                tapeCalls();
            }
        }
        whole();
    }

    public static void main(String[] args) {
        int runs = args.length > 0 ? Integer.parseInt(args[0]) : 2500;
        for (long seed = 1; seed <= runs && Due.allRight(); seed++) {
            ModelTest run = new ModelTest(seed);
            run.go();
            if (run.wrong) {
                System.out.println("seed " + seed + ": " + String.join("; ", run.log));
            }
        }
        Due.end("ModelTest");
    }
}
