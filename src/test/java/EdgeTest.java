import java.util.function.Supplier;
import java.util.function.ToLongFunction;

/**
 * Each call by its promise's number: the least and the greatest that is taken, the first on either
 * side that is refused, each refusal that the promise names, which of two that meet is the answer;
 * and that all is as it was behind a call that is refused or asks.
 */
public final class EdgeTest {
    private static final int NONE = Bench.NONE, BAD = Bench.BAD, STATE = Bench.STATE, FULL = Bench.FULL;
    private static final int NOWHERE = Bench.NOWHERE, NOTHING = Bench.NOTHING, CAST = Bench.CAST;
    private static final int PLACE = Bench.PLACE, SIZE = Bench.SIZE;
    private static final int MIN = Bench.MIN, MAX = Bench.MAX;
    private static final long NO = Bench.NO;

    private EdgeTest() { }

    private static void due(String call, long got, long want) {
        Due.is(call, got, want);
    }

    private static void none(String name, ToLongFunction<BothSidesSheet> call, long want) {
        Bench.still(name + " of a new one", BothSidesSheet::new, call, want);
    }

    private static void some(String name, ToLongFunction<BothSidesSheet> call, long want) {
        Bench.still(name, Bench::some, call, want);
    }

    private static void full(String name, ToLongFunction<BothSidesSheet> call, long want) {
        Bench.still(name + " of a full one", Bench::full, call, want);
    }

    /** What is refused, whatever is there: of a new one, of one in the middle, of a full one. */
    private static void each(String name, ToLongFunction<BothSidesSheet> call, long want) {
        none(name, call, want);
        some(name, call, want);
        full(name, call, want);
    }

    // ---- trays, jobs, the stack

    /** "No SHEETS, no TRAYS, no JOBS." Nor anything else. */
    private static void promise1() {
        for (int what = 0; what <= 7; what++) {
            int it = what;
            none("count(" + what + ")", x -> x.count(it), 0);
        }
        none("sheet(0, 0)", x -> x.sheet(0, 0), NONE);
        none("of(0, 0)", x -> x.of(0, 0), NONE);
        none("jobs(0, 0)", x -> x.jobs(0, 0), NONE);
        none("told(0)", x -> x.told(0), 0);
        none("told(1)", x -> x.told(1), 0);
        none("told(2)", x -> x.told(2), 0);
        none("told(3)", x -> x.told(3), 0xffffff);
        none("looked()", x -> x.looked(), NOWHERE);
        none("done(0)", x -> x.done(0), 0);
        none("trace(0)", x -> x.trace(0), NONE);
        none("undo()", x -> x.undo(), STATE);
        none("read(0, 0)", x -> x.read(0, 0), NO);
        Bench.full();
        none("count(0), though another is full", x -> x.count(0), 0);
    }

    /** "NONE: kind; BAD: v; FULL: 5." */
    private static void promise2() {
        for (int kind : new int[] {MIN, -1, 7, MAX}) {
            each("tray of kind " + kind, x -> x.tray(kind, 0), NONE);
            each("tray of kind " + kind + ", v 10: the kind is first", x -> x.tray(kind, 10), NONE);
        }
        for (int v : new int[] {MIN, -1, 10, MAX}) {
            each("tray with v " + v + ": ahead of FULL", x -> x.tray(0, v), BAD);
            each("tray of kind 6 with v " + v, x -> x.tray(6, v), BAD);
        }
        for (int kind = 0; kind <= 6; kind++) {
            int it = kind;
            full("tray of kind " + kind, x -> x.tray(it, 0), FULL);
            BothSidesSheet x = new BothSidesSheet();
            due("the least v", x.tray(kind, 0), 0);
            due("the greatest v", x.tray(kind, 9), 1);
            due("of(0, 1)", x.of(0, 1), 0);
            due("of(1, 1)", x.of(1, 1), 9);
            due("of(1, 0)", x.of(1, 0), kind);
        }
        full("tray with v 9", x -> x.tray(6, 9), FULL);
        BothSidesSheet x = Bench.with(0, 0, 0, 0, 0, 0, 0, 0, 0);
        due("a fifth", x.tray(0, 0), 4);
        due("a sixth", x.tray(0, 0), FULL);
        due("a sixth with a bad v", x.tray(0, 10), BAD);
        due("a sixth of no kind", x.tray(-1, 10), NONE);
    }

    /** "Of a TRAY what 0 KIND, 1 v, 2 RAN. NONE." */
    private static void promise3() {
        some("of(0, 0)", x -> x.of(0, 0), 6);
        some("of(1, 0)", x -> x.of(1, 0), 4);
        some("of(0, 1)", x -> x.of(0, 1), 2);
        some("of(1, 2)", x -> x.of(1, 2), 1);
        full("of(4, 1)", x -> x.of(4, 1), 9);
        full("of(4, 2)", x -> x.of(4, 2), 0);
        some("of(2, 0)", x -> x.of(2, 0), NONE);
        full("of(5, 0)", x -> x.of(5, 0), NONE);
        none("of(0, 0)", x -> x.of(0, 0), NONE);
        for (int n : new int[] {MIN, -1, 5, MAX}) {
            each("of(" + n + ", 0)", x -> x.of(n, 0), NONE);
        }
        for (int what : new int[] {MIN, -1, 3, MAX}) {
            each("of(0, " + what + ")", x -> x.of(0, what), NONE);
        }
    }

    /** "NONE: tray, part; BAD; STATE: another KIND." */
    private static void promise4() {
        none("row(0, 0, 0)", x -> x.row(0, 0, 0), NONE);
        some("row(2, 0, 0)", x -> x.row(2, 0, 0), NONE);
        for (int n : new int[] {MIN, -1, 5, MAX}) {
            each("row(" + n + ", 0, 0)", x -> x.row(n, 0, 0), NONE);
            each("row(" + n + ", 0, 10): the tray is first", x -> x.row(n, 0, 10), NONE);
        }
        for (int part : new int[] {MIN, -1, 4, MAX}) {
            some("row(0, " + part + ", 0)", x -> x.row(0, part, 0), NONE);
            some("row(0, " + part + ", 10): ahead of BAD", x -> x.row(0, part, 10), NONE);
            some("row(1, " + part + ", 0): ahead of STATE", x -> x.row(1, part, 0), NONE);
            some("row(1, " + part + ", 10): ahead of both", x -> x.row(1, part, 10), NONE);
        }
        for (int n : new int[] {MIN, -1, 10, MAX}) {
            some("row(0, 0, " + n + ")", x -> x.row(0, 0, n), BAD);
            some("row(0, 3, " + n + ")", x -> x.row(0, 3, n), BAD);
            some("row(1, 0, " + n + "): ahead of STATE", x -> x.row(1, 0, n), BAD);
        }
        for (int tray = 1; tray <= 4; tray++) {
            int it = tray;
            full("row(" + tray + ", 0, 0) of another kind", x -> x.row(it, 0, 0), STATE);
            full("row(" + tray + ", 3, 9) of another kind", x -> x.row(it, 3, 9), STATE);
        }
        BothSidesSheet x = Bench.with(0, Bench.TRAY, 0, Bench.TURNING, 0, Bench.TOLD, 0, Bench.TOLD, 0);
        due("of a plain one", x.row(0, 0, 0), STATE);
        due("of a turning one", x.row(1, 0, 0), STATE);
        for (int part = 0; part <= 3; part++) {
            due("0 at first", x.row(2, part, 9), 0);
            due("the greatest", x.row(2, part, 0), 9);
            due("the least", x.row(2, part, part + 1), 0);
        }
        for (int part = 0; part <= 3; part++) {
            due("each part its own", x.row(2, part, 0), part + 1);
            due("each tray its own", x.row(3, part, 0), 0);
        }
    }

    /** "A sign (0 .. 127) comes behind THE TEXT's: how many it has. BAD; FULL." */
    private static void promise5() {
        for (int sign : new int[] {MIN, -1, 128, MAX}) {
            each("feed(" + sign + "): ahead of FULL", x -> x.feed(sign), BAD);
        }
        full("feed(0)", x -> x.feed(0), FULL);
        full("feed(127)", x -> x.feed(127), FULL);
        BothSidesSheet x = new BothSidesSheet();
        due("the least", x.feed(0), 1);
        due("the greatest", x.feed(127), 2);
        for (int i = 3; i <= 100; i++) {
            due("a sign", x.feed('a'), i);
        }
        due("one too many", x.feed('a'), FULL);
        due("one too many, bad", x.feed(128), BAD);
        due("100 still", x.count(6), 100);
        due("a fault at the first", x.job(), -10);
        due("room again", x.feed('a'), 1);
    }

    /** "THE TEXT, which is empty then, is a JOB: its number. FULL: there are 6 (THE TEXT stays); -10
     * less the FAULT." */
    private static void promise6() {
        full("job() of no job", x -> x.job(), FULL);
        Bench.still("job() of a job", EdgeTest::sixAndAText, x -> x.job(), FULL);
        Bench.still("job() of nothing", EdgeTest::six, x -> x.job(), FULL);
        due("the text stays", answered(sixAndAText(), x -> x.job()).count(6), 6);
        BothSidesSheet x = new BothSidesSheet();
        due("an empty text", x.job(), -10);
        due("a fault at 0", Bench.job(x, "x"), -10);
        due("a fault at 1", Bench.job(x, "fx"), -11);
        due("it is empty behind a fault", x.count(6), 0);
        due("no job by a fault", x.count(2), 0);
        due("the first job's number", Bench.job(x, "till 1"), 0);
        due("it is empty behind a job", x.count(6), 0);
        due("a fault between", Bench.job(x, "till 1,"), -16);
        due("the next one's number", Bench.job(x, "till 2"), 1);
        BothSidesSheet five = six(5);
        due("the last there is room for", Bench.job(five, "till 9"), 5);
        due("one more", Bench.job(five, "till 9"), FULL);
        due("a fault at the end of 100", Bench.job(new BothSidesSheet(), "skip p=11" + "|p=11".repeat(18)
                + "|"), -110);
        Bench.still("a fault leaves all but the text", () -> cleared(Bench.some()),
                y -> Bench.job(y, "from x"), -15);
    }

    private static BothSidesSheet six() {
        return six(6);
    }

    private static BothSidesSheet six(int jobs) {
        BothSidesSheet x = Bench.with(3, Bench.TRAY, 0);
        for (int i = 0; i < jobs; i++) {
            Bench.job(x, "from " + i);
        }
        return x;
    }

    private static BothSidesSheet sixAndAText() {
        BothSidesSheet x = six();
        Bench.feed(x, "till 1");
        return x;
    }

    /** The text that it has is no job: it is empty then. */
    private static BothSidesSheet cleared(BothSidesSheet x) {
        x.job();
        return x;
    }

    private static BothSidesSheet answered(BothSidesSheet x, ToLongFunction<BothSidesSheet> call) {
        call.applyAsLong(x);
        return x;
    }

    /** "So many blank SHEETS (1 .. 12) come on top: how many there are. BAD; FULL: .. more than 12." */
    private static void promise7() {
        for (int n : new int[] {MIN, -1, 0, 13, MAX}) {
            each("load(" + n + "): ahead of FULL", x -> x.load(n), BAD);
        }
        full("load(1)", x -> x.load(1), FULL);
        full("load(12)", x -> x.load(12), FULL);
        some("load(9) on 4", x -> x.load(9), FULL);
        some("load(12) on 4", x -> x.load(12), FULL);
        due("load(8) on 4", Bench.some().load(8), 12);
        due("load(1) on 4", Bench.some().load(1), 5);
        due("load(12) on none", new BothSidesSheet().load(12), 12);
        due("load(1) on none", new BothSidesSheet().load(1), 1);
        for (int sheets = 1; sheets <= 11; sheets++) {
            due("as many as there is room for", Bench.with(sheets).load(12 - sheets), 12);
            due("one more than there is room for", Bench.with(sheets).load(13 - sheets), FULL);
        }
        BothSidesSheet x = Bench.with(2, Bench.TRAY, 0);
        Bench.run(x, 0, "turn p=1");
        x.load(2);
        Bench.lies("on top of those that are there", x, "0/0 0/0 2/0 1v/0");
        x.turn(2);
        x.empty();
        x.load(2);
        Bench.lies("blank, the right way up", x, "0/0 0/0");
    }

    /** "THE STACK is empty: how many SHEETS there were." */
    private static void promise8() {
        none("empty()", x -> x.empty(), 0);
        for (int sheets = 1; sheets <= 12; sheets++) {
            BothSidesSheet x = Bench.with(sheets);
            due("empty()", x.empty(), sheets);
            due("none is left", x.count(0), 0);
            due("empty() again", x.empty(), 0);
        }
        BothSidesSheet x = Bench.some();
        x.empty();
        due("trays stay", x.count(1), 2);
        due("RAN stays", x.of(0, 2), 1);
        due("jobs stay", x.count(2), 2);
        due("what is seen stays", x.count(3), 2);
    }

    /** "A WAY is done with THE STACK: how many are RIGHT then. NONE." */
    private static void promise9() {
        for (int way : new int[] {MIN, -1, 4, MAX}) {
            each("turn(" + way + ")", x -> x.turn(way), NONE);
        }
        some("turn(0)", x -> x.turn(0), 0);
        full("turn(0)", x -> x.turn(0), 0);
        int[] rights = {12, 0, 0, 0};
        for (int way = 0; way <= 3; way++) {
            BothSidesSheet x = Bench.right(12);
            due("of right ones, way " + way, x.turn(way), rights[way]);
            due("and back, way " + way, x.turn(way), 12);
        }
    }

    /** "Of a SHEET what 0 UPPER, 1 LOWER, 2 whether the one is HEAD DOWN, 3 the other, 4 whether it is
     * RIGHT. NONE." */
    private static void promise10() {
        for (int sheet : new int[] {MIN, -1, 12, MAX}) {
            each("sheet(" + sheet + ", 0)", x -> x.sheet(sheet, 0), NONE);
            each("sheet(" + sheet + ", 4)", x -> x.sheet(sheet, 4), NONE);
        }
        for (int what : new int[] {MIN, -1, 5, MAX}) {
            each("sheet(0, " + what + ")", x -> x.sheet(0, what), NONE);
        }
        none("sheet(0, 0)", x -> x.sheet(0, 0), NONE);
        some("sheet(4, 0)", x -> x.sheet(4, 0), NONE);
        full("sheet(11, 0)", x -> x.sheet(11, 0), 0);
        for (int what = 0; what <= 4; what++) {
            int it = what;
            long[] of = {23, 24, 0, 0, 1};
            Bench.still("sheet(11, " + what + ")", () -> Bench.right(12), x -> x.sheet(11, it), of[what]);
        }
        BothSidesSheet x = Bench.with(1, Bench.FLIPPING, 0);
        Bench.run(x, 0, "from 2;turn p=2");
        Bench.run(x, 0, "from 1");
        due("2: upper", x.sheet(0, 2), 1);
        due("3: lower", x.sheet(0, 3), 0);
        due("4: not so", x.sheet(0, 4), 0);
        x.turn(1);
        due("2: upper", x.sheet(0, 2), 0);
        due("3: lower", x.sheet(0, 3), 1);
        due("4: 1 is the upper, but not so", x.sheet(0, 4), 0);
    }

    /** "What 0 how many are RIGHT, 1 .. spoiled, 2 how many sides are blank, 3 MISSING. NONE." */
    private static void promise11() {
        for (int what : new int[] {MIN, -1, 4, MAX}) {
            each("told(" + what + ")", x -> x.told(what), NONE);
        }
        Supplier<BothSidesSheet> right = () -> Bench.right(12);
        Bench.still("all are right", right, x -> x.told(0), 12);
        Bench.still("none is spoiled", right, x -> x.told(1), 0);
        Bench.still("none is blank", right, x -> x.told(2), 0);
        Bench.still("none is missing", right, x -> x.told(3), 0);
        Supplier<BothSidesSheet> blank = () -> Bench.with(12);
        Bench.still("none is right", blank, x -> x.told(0), 0);
        Bench.still("all are blank", blank, x -> x.told(2), 24);
        Bench.still("all are missing", blank, x -> x.told(3), 0xffffff);
        BothSidesSheet x = Bench.right(12);
        x.run(0, 0);
        x.run(1, 1);
        due("all are spoiled", x.told(1), 24);
        due("none is blank", x.told(2), 0);
        x.turn(2);
        due("head down, too", x.told(1), 24);
        BothSidesSheet down = Bench.with(2);
        down.turn(2);
        due("blank ones that are head down, too", down.told(2), 4);
    }

    /** "FROM (what 0), TILL (1) of a JOB. NONE." */
    private static void promise12() {
        for (int job : new int[] {MIN, -1, 6, MAX}) {
            each("jobs(" + job + ", 0)", x -> x.jobs(job, 0), NONE);
        }
        for (int what : new int[] {MIN, -1, 2, MAX}) {
            each("jobs(0, " + what + ")", x -> x.jobs(0, what), NONE);
        }
        none("jobs(0, 0)", x -> x.jobs(0, 0), NONE);
        some("jobs(2, 0)", x -> x.jobs(2, 0), NONE);
        some("jobs(1, 0)", x -> x.jobs(1, 0), 3);
        some("jobs(1, 1)", x -> x.jobs(1, 1), 24);
        full("jobs(0, 1)", x -> x.jobs(0, 1), 1);
        full("jobs(5, 1)", x -> x.jobs(5, 1), 6);
        full("jobs(5, 0)", x -> x.jobs(5, 0), 1);
    }

    // ---- runs

    /** "A RUN: how many PAGES were printed. NONE; STATE: RAN is 9999." */
    private static void promise13() {
        for (int n : new int[] {MIN, -1, 6, MAX}) {
            each("run(" + n + ", 0)", x -> x.run(n, 0), NONE);
            each("run(0, " + n + ")", x -> x.run(0, n), NONE);
        }
        none("run(0, 0)", x -> x.run(0, 0), NONE);
        some("run(2, 0)", x -> x.run(2, 0), NONE);
        some("run(0, 2)", x -> x.run(0, 2), NONE);
        full("run(5, 0)", x -> x.run(5, 0), NONE);
        Bench.still("run(0, 0) without a job", () -> Bench.with(3, 0, 0), x -> x.run(0, 0), NONE);
        Bench.still("run(0, 0) without a tray", () -> answered(Bench.with(3), x -> Bench.job(x, "till 1")),
                x -> x.run(0, 0), NONE);
        due("the last tray, the last job", Bench.full().run(4, 5), 6);
        due("the first ones", Bench.full().run(0, 0), 1);
        due("twelve pages", Bench.run(Bench.with(12, 0, 0), 0, "till 24"), 12);
        due("none", Bench.run(Bench.with(12, 0, 0), 0, Bench.IDLE), 0);
        ranOut();
    }

    /** More calls than are promised, as no fewer come to it. */
    private static void ranOut() {
        BothSidesSheet x = Bench.with(2, Bench.FLIPPING, 0, Bench.TRAY, 0);
        Bench.job(x, "till 1");
        for (int i = 1; i <= 9998; i++) {
            x.run(0, 0);
        }
        due("one is left", x.of(0, 2), 9998);
        due("the last", x.run(0, 0), 1);
        due("RAN is 9999", x.of(0, 2), 9999);
        String was = Bench.stack(x);
        due("one more", x.run(0, 0), STATE);
        due("NONE is first", x.run(0, 1), NONE);
        due("RAN is 9999 still", x.of(0, 2), 9999);
        Bench.lies("nothing was done", x, was);
        due("what is asked is no run", x.after(0, 0, 1), 1);
        due("another tray", x.run(1, 0), 1);
        due("a plan is no run", x.plan(0, 0, 0), 1);
    }

    /** "AFTER: what 0 .., 1 .., 2 .., 10 and s UPPER, 30 and s LOWER of SHEET s. NONE." */
    private static void promise14() {
        for (int n : new int[] {MIN, -1, 6, MAX}) {
            each("after(" + n + ", 0, 0)", x -> x.after(n, 0, 0), NONE);
            each("after(0, " + n + ", 0)", x -> x.after(0, n, 0), NONE);
        }
        for (int what : new int[] {MIN, -1, 3, 9, 22, 29, 42, MAX}) {
            each("after(0, 0, " + what + ")", x -> x.after(0, 0, what), NONE);
        }
        some("after(2, 0, 0)", x -> x.after(2, 0, 0), NONE);
        some("after(0, 2, 0)", x -> x.after(0, 2, 0), NONE);
        full("after(5, 0, 0)", x -> x.after(5, 0, 0), NONE);
        some("after(0, 0, 14): no sheet 4", x -> x.after(0, 0, 14), NONE);
        some("after(0, 0, 34): no sheet 4", x -> x.after(0, 0, 34), NONE);
        some("after(1, 1, 1)", x -> x.after(1, 1, 1), 4);
        none("after(0, 0, 10)", x -> x.after(0, 0, 10), NONE);
        Supplier<BothSidesSheet> twelve = () -> answered(Bench.with(12, Bench.TRAY, 0, Bench.FLIPPING, 0),
                x -> Bench.job(x, "from 3"));
        Bench.still("the first upper side", twelve, x -> x.after(0, 0, 10), 14);
        Bench.still("the last upper side", twelve, x -> x.after(0, 0, 21), 3);
        Bench.still("the first lower side", twelve, x -> x.after(1, 0, 30), 14);
        Bench.still("the last lower side", twelve, x -> x.after(1, 0, 41), 3);
        Bench.still("how many are right", twelve, x -> x.after(0, 0, 0), 0);
        Bench.still("how many pages", twelve, x -> x.after(0, 0, 1), 12);
        Bench.still("how many sides are spoiled", twelve, x -> x.after(0, 0, 2), 0);
    }

    /** "BEST; -5. NONE." */
    private static void promise15() {
        for (int job : new int[] {MIN, -1, 6, MAX}) {
            each("best(" + job + ")", x -> x.best(job), NONE);
        }
        none("best(0): NONE is first, though there are no trays", x -> x.best(0), NONE);
        some("best(2)", x -> x.best(2), NONE);
        some("best(1)", x -> x.best(1), 0);
        full("best(5)", x -> x.best(5), 0);
        Supplier<BothSidesSheet> trayless = () -> answered(Bench.with(3), x -> Bench.job(x, "till 1"));
        Bench.still("best(0) without trays", trayless, x -> x.best(0), NOWHERE);
        Bench.still("best(1) without trays", trayless, x -> x.best(1), NONE);
    }

    /** "USES. NONE." */
    private static void promise16() {
        for (int n : new int[] {MIN, -1, 6, MAX}) {
            each("uses(" + n + ", 0)", x -> x.uses(n, 0), NONE);
            each("uses(0, " + n + ")", x -> x.uses(0, n), NONE);
        }
        some("uses(2, 0)", x -> x.uses(2, 0), NONE);
        some("uses(0, 2)", x -> x.uses(0, 2), NONE);
        full("uses(5, 0)", x -> x.uses(5, 0), NONE);
        some("uses(1, 1): more than there are", x -> x.uses(1, 1), 12);
        some("uses(0, 0)", x -> x.uses(0, 0), 2);
        full("uses(4, 5)", x -> x.uses(4, 5), 6);
        full("uses(0, 5)", x -> x.uses(0, 5), 11);
        full("uses(3, 5)", x -> x.uses(3, 5), 4);
    }

    /** "WAY: what 0 which, 1 how many. NONE." */
    private static void promise17() {
        for (int n : new int[] {MIN, -1, 6, MAX}) {
            each("way(" + n + ", 0, 0, 0, 0)", x -> x.way(n, 0, 0, 0, 0), NONE);
            each("way(0, " + n + ", 0, 0, 0)", x -> x.way(0, n, 0, 0, 0), NONE);
            each("way(0, 0, " + n + ", 0, 0)", x -> x.way(0, 0, n, 0, 0), NONE);
            each("way(0, 0, 0, " + n + ", 0)", x -> x.way(0, 0, 0, n, 0), NONE);
        }
        for (int what : new int[] {MIN, -1, 2, MAX}) {
            each("way(0, 0, 0, 0, " + what + ")", x -> x.way(0, 0, 0, 0, what), NONE);
        }
        some("way(2, 0, 0, 0, 0)", x -> x.way(2, 0, 0, 0, 0), NONE);
        some("way(0, 2, 0, 0, 0)", x -> x.way(0, 2, 0, 0, 0), NONE);
        some("way(0, 0, 2, 0, 0)", x -> x.way(0, 0, 2, 0, 0), NONE);
        some("way(0, 0, 0, 2, 0)", x -> x.way(0, 0, 0, 2, 0), NONE);
        full("way(4, 5, 4, 5, 0)", x -> x.way(4, 5, 4, 5, 0), 0);
        full("way(4, 5, 4, 5, 1)", x -> x.way(4, 5, 4, 5, 1), 0);
        full("way(5, 5, 4, 5, 0)", x -> x.way(5, 5, 4, 5, 0), NONE);
        Bench.still("which", EdgeTest::downFirst, x -> x.way(0, 0, 1, 1, 0), 3);
        Bench.still("how many", EdgeTest::downFirst, x -> x.way(0, 0, 1, 1, 1), 1);
    }

    /** Tray 0 prints page 2 head down by job 0; over, then about, it is right below. */
    private static BothSidesSheet downFirst() {
        BothSidesSheet x = Bench.with(1, Bench.TRAY, 0, Bench.TRAY, 9);
        Bench.job(x, "from 2;till 2;turn p>0;skip v=9");
        Bench.job(x, "till 1;skip v=0");
        return x;
    }

    /** "TWICE: what 0 which, 1 how many (0: there are none); -5. NONE." */
    private static void promise18() {
        for (int n : new int[] {MIN, -1, 6, MAX}) {
            each("twice(" + n + ", 0, 0)", x -> x.twice(n, 0, 0), NONE);
            each("twice(0, " + n + ", 0)", x -> x.twice(0, n, 0), NONE);
        }
        for (int what : new int[] {MIN, -1, 2, MAX}) {
            each("twice(0, 0, " + what + ")", x -> x.twice(0, 0, what), NONE);
        }
        some("twice(2, 0, 0)", x -> x.twice(2, 0, 0), NONE);
        some("twice(0, 2, 0)", x -> x.twice(0, 2, 0), NONE);
        full("twice(5, 5, 0)", x -> x.twice(5, 5, 0), 0);
        full("twice(5, 5, 1)", x -> x.twice(5, 5, 1), 0);
        Bench.still("which", EdgeTest::downFirst, x -> x.twice(0, 1, 0), 31);
        Bench.still("how many", EdgeTest::downFirst, x -> x.twice(0, 1, 1), 1);
        Supplier<BothSidesSheet> trayless = () -> answered(Bench.with(3), x -> Bench.job(x, "till 1"));
        Bench.still("without trays", trayless, x -> x.twice(0, 0, 0), NOWHERE);
        Bench.still("how many without trays", trayless, x -> x.twice(0, 0, 1), 0);
        Bench.still("neither: NONE is first", trayless, x -> x.twice(0, 0, 2), NONE);
        Bench.still("no such job: NONE is first", trayless, x -> x.twice(0, 1, 0), NONE);
        none("twice(0, 0, 0): NONE is first", x -> x.twice(0, 0, 0), NONE);
    }

    /** "FIND; -5. BAD." */
    private static void promise19() {
        for (int page : new int[] {MIN, -1, 0, 61, 99, MAX}) {
            each("find(" + page + "): though it may lie there", x -> x.find(page), BAD);
        }
        none("find(1)", x -> x.find(1), NOWHERE);
        full("find(60)", x -> x.find(60), NOWHERE);
        Bench.still("the first", () -> Bench.right(12), x -> x.find(1), 0);
        Bench.still("the last", () -> Bench.right(12), x -> x.find(24), 111);
    }

    // ---- seen, odds

    /** What may be told by hand of a side, in see and in book. */
    private interface Hand {
        int tell(BothSidesSheet x, int sheet, int side, int page);
    }

    private static void told(String name, Hand hand, int count, int most) {
        for (int n : new int[] {MIN, -2, 12, MAX}) {
            each(name + " of sheet " + n + ": ahead of FULL", x -> hand.tell(x, n, 0, 0), BAD);
        }
        for (int n : new int[] {MIN, -1, 2, MAX}) {
            each(name + " of side " + n + ": ahead of FULL", x -> hand.tell(x, 0, n, 0), BAD);
        }
        for (int n : new int[] {MIN, -1, 61, 98, 100, MAX}) {
            each(name + " of page " + n + ": ahead of FULL", x -> hand.tell(x, 0, 0, n), BAD);
        }
        full(name, x -> hand.tell(x, 0, 0, 0), FULL);
        full(name + " of the greatest", x -> hand.tell(x, 11, 1, 99), FULL);
        int[][] taken = {{0, 0, 0}, {11, 1, 60}, {11, 0, 99}, {0, 1, 1}, {5, 1, 59}};
        for (int[] row : taken) {
            due(name + " of what is taken", hand.tell(new BothSidesSheet(), row[0], row[1], row[2]), 1);
        }
        BothSidesSheet x = new BothSidesSheet();
        due(name + ", none of none", hand.tell(x, -1, 0, 0), 0);
        for (int i = 1; i <= most; i++) {
            due(name, hand.tell(x, i, i % 2, i), i);
        }
        due(name + ", one too many", hand.tell(x, 0, 0, 0), FULL);
        due(name + ", one too many, bad", hand.tell(x, 0, 2, 0), BAD);
        due(name + ", all still there", x.count(count), most);
        due(name + ", none, whatever the others are", hand.tell(x, -1, MIN, MAX), 0);
        due(name + ", none is there", x.count(count), 0);
        due(name + ", room again", hand.tell(x, 0, 0, 0), 1);
        due(name + ", none, though full", hand.tell(Bench.full(), -1, 2, 61), 0);
    }

    /** "What is SEEN comes: how many there are (sheet -1: none then, 0 ..). BAD: ..; FULL: 5." */
    private static void promise20() {
        told("see", (x, sheet, side, page) -> x.see(sheet, side, page), 3, 5);
    }

    /** "WHICH, as bits. NONE." */
    private static void promise21() {
        for (int job : new int[] {MIN, -1, 6, MAX}) {
            each("which(" + job + ")", x -> x.which(job), NONE);
        }
        none("which(0)", x -> x.which(0), NONE);
        some("which(2)", x -> x.which(2), NONE);
        some("which(1): both leave what is above", x -> x.which(1), 2);
        full("which(0)", x -> x.which(0), 0);
        Supplier<BothSidesSheet> five = () -> answered(Bench.with(1, 0, 0, 0, 1, 0, 2, 0, 3, 0, 4),
                x -> Bench.job(x, "till 1"));
        Bench.still("nothing seen: all five", five, x -> x.which(0), 31);
        Bench.still("no trays", () -> answered(new BothSidesSheet(), x -> Bench.job(x, "till 1")),
                x -> x.which(0), 0);
    }

    /** "CAN: what 0 how many, 1 the least; -5. NONE." */
    private static void promise22() {
        for (int n : new int[] {MIN, -1, 6, MAX}) {
            each("can(" + n + ", 0, 0)", x -> x.can(n, 0, 0), NONE);
            each("can(0, " + n + ", 0)", x -> x.can(0, n, 0), NONE);
        }
        for (int what : new int[] {MIN, -1, 2, MAX}) {
            each("can(0, 0, " + what + ")", x -> x.can(0, 0, what), NONE);
        }
        some("can(2, 0, 0)", x -> x.can(2, 0, 0), NONE);
        some("can(0, 2, 0)", x -> x.can(0, 2, 0), NONE);
        full("can(5, 0, 0)", x -> x.can(5, 0, 0), NONE);
        full("can(4, 5, 0)", x -> x.can(4, 5, 0), 0);
        full("can(4, 5, 1)", x -> x.can(4, 5, 1), NOWHERE);
        Supplier<BothSidesSheet> damp = () -> seen(Bench.with(12, Bench.DAMP, 4), 0, 0, 0);
        Bench.still("through as the twelfth: v 0, 1, 2, 4", damp, x -> x.can(0, 0, 0), 4);
        Bench.still("the least", damp, x -> x.can(0, 0, 1), 0);
        Supplier<BothSidesSheet> curled = () -> seen(Bench.with(12, Bench.CURLED, 4), 2, 1, 10);
        Bench.still("page 10 by v 9 alone", curled, x -> x.can(0, 0, 0), 1);
        Bench.still("the least", curled, x -> x.can(0, 0, 1), 9);
        Supplier<BothSidesSheet> never = () -> seen(Bench.with(12, Bench.CURLED, 4), 1, 1, 11);
        Bench.still("page 11 by none", never, x -> x.can(0, 0, 0), 0);
        Bench.still("no least", never, x -> x.can(0, 0, 1), NOWHERE);
    }

    private static BothSidesSheet seen(BothSidesSheet x, int sheet, int side, int page) {
        Bench.job(x, "till 24");
        x.see(sheet, side, page);
        return x;
    }

    /** "ODDS; part 0 above, 1 below the line. NO." */
    private static void promise23() {
        for (int n : new int[] {MIN, -1, 6, MAX}) {
            each("odds(" + n + ", 0, 0)", x -> x.odds(n, 0, 0), NO);
        }
        for (int q : new int[] {MIN, -1, 13, MAX}) {
            each("odds(0, " + q + ", 0)", x -> x.odds(0, q, 0), NO);
        }
        for (int part : new int[] {MIN, -1, 2, MAX}) {
            each("odds(0, 0, " + part + ")", x -> x.odds(0, 0, part), NO);
        }
        none("odds(0, 0, 0)", x -> x.odds(0, 0, 0), NO);
        some("odds(2, 0, 0)", x -> x.odds(2, 0, 0), NO);
        some("odds(1, 0, 0)", x -> x.odds(1, 0, 0), 1);
        some("odds(1, 0, 1)", x -> x.odds(1, 0, 1), 1);
        some("odds(1, 12, 0)", x -> x.odds(1, 12, 0), 0);
        full("odds(5, 12, 1)", x -> x.odds(5, 12, 1), 1);
        Supplier<BothSidesSheet> trayless = () -> answered(Bench.with(3), x -> Bench.job(x, "till 1"));
        Bench.still("no trays", trayless, x -> x.odds(0, 0, 0), NO);
        Bench.still("no trays", trayless, x -> x.odds(0, 0, 1), NO);
        Bench.still("1 of 2, above", EdgeTest::oneOfTwo, x -> x.odds(1, 1, 0), 1);
        Bench.still("1 of 2, below", EdgeTest::oneOfTwo, x -> x.odds(1, 1, 1), 2);
    }

    /** By job 1 the one sheet is right after a run of tray 1, but not of tray 0. */
    private static BothSidesSheet oneOfTwo() {
        BothSidesSheet x = Bench.with(1, Bench.FLIPPING, 0, Bench.TRAY, 0);
        Bench.run(x, 0, "from 2");
        Bench.job(x, "till 1");
        return x;
    }

    /** "MEAN; part likewise. NO." */
    private static void promise24() {
        for (int n : new int[] {MIN, -1, 6, MAX}) {
            each("mean(" + n + ", 0)", x -> x.mean(n, 0), NO);
        }
        for (int part : new int[] {MIN, -1, 2, MAX}) {
            each("mean(0, " + part + ")", x -> x.mean(0, part), NO);
        }
        none("mean(0, 0)", x -> x.mean(0, 0), NO);
        some("mean(2, 0)", x -> x.mean(2, 0), NO);
        some("mean(1, 0)", x -> x.mean(1, 0), 0);
        some("mean(1, 1)", x -> x.mean(1, 1), 1);
        full("mean(5, 1)", x -> x.mean(5, 1), 1);
        Supplier<BothSidesSheet> trayless = () -> answered(Bench.with(3), x -> Bench.job(x, "till 1"));
        Bench.still("no trays", trayless, x -> x.mean(0, 0), NO);
        Bench.still("no trays", trayless, x -> x.mean(0, 1), NO);
        Bench.still("1 by 2, above", EdgeTest::oneOfTwo, x -> x.mean(1, 0), 1);
        Bench.still("1 by 2, below", EdgeTest::oneOfTwo, x -> x.mean(1, 1), 2);
    }

    // ---- plans, books

    /** "NONE: what (0 .. 2), tray, job (by 0), WAY (by 1); BAD: a (by 2); b is looked at by 0 alone;
     * FULL: 6." */
    private static void promise25() {
        for (int what : new int[] {MIN, -2, 3, MAX}) {
            each("plan(" + what + ", 0, 0): ahead of FULL", x -> x.plan(what, 0, 0), NONE);
            each("plan(" + what + ", 13, 0)", x -> x.plan(what, 13, 0), NONE);
        }
        for (int n : new int[] {MIN, -1, 6, MAX}) {
            each("plan(0, " + n + ", 0): ahead of FULL", x -> x.plan(0, n, 0), NONE);
            each("plan(0, 0, " + n + "): ahead of FULL", x -> x.plan(0, 0, n), NONE);
        }
        for (int way : new int[] {MIN, -1, 4, MAX}) {
            each("plan(1, " + way + ", 0): ahead of FULL", x -> x.plan(1, way, 0), NONE);
        }
        for (int n : new int[] {MIN, -1, 0, 13, MAX}) {
            each("plan(2, " + n + ", 0): ahead of FULL", x -> x.plan(2, n, 0), BAD);
        }
        none("plan(0, 0, 0)", x -> x.plan(0, 0, 0), NONE);
        some("plan(0, 2, 0)", x -> x.plan(0, 2, 0), NONE);
        some("plan(0, 0, 2)", x -> x.plan(0, 0, 2), NONE);
        full("plan(0, 4, 5)", x -> x.plan(0, 4, 5), FULL);
        full("plan(1, 3, 0)", x -> x.plan(1, 3, 0), FULL);
        full("plan(2, 12, 0)", x -> x.plan(2, 12, 0), FULL);
        full("plan(0, 5, 0)", x -> x.plan(0, 5, 0), NONE);
        int[][] taken = {{0, 0, 0}, {0, 1, 1}, {1, 0, MIN}, {1, 3, MAX}, {2, 1, -1}, {2, 12, 99}};
        for (int[] row : taken) {
            due("a row more", Bench.some().plan(row[0], row[1], row[2]), 3);
        }
        BothSidesSheet x = new BothSidesSheet();
        due("empty, though it was", x.plan(-1, 0, 0), 0);
        for (int i = 1; i <= 6; i++) {
            due("a row", x.plan(1, i % 4, 0), i);
        }
        due("one too many", x.plan(1, 0, 0), FULL);
        due("six still", x.count(4), 6);
        due("empty, whatever the others are", x.plan(-1, MIN, MAX), 0);
        due("none is there", x.count(4), 0);
        due("room again", x.plan(2, 1, 0), 1);
    }

    /** "DONE: what 0 how many are RIGHT, 1 how many sides are spoiled. NONE." */
    private static void promise26() {
        for (int what : new int[] {MIN, -1, 2, MAX}) {
            each("done(" + what + ")", x -> x.done(what), NONE);
        }
        none("done(0)", x -> x.done(0), 0);
        none("done(1)", x -> x.done(1), 0);
        full("done(0)", x -> x.done(0), 0);
        Bench.still("an empty plan: as it is", () -> Bench.right(12), x -> x.done(0), 12);
        Supplier<BothSidesSheet> again = () -> answered(Bench.right(12), x -> x.plan(0, 1, 1));
        Bench.still("all above are spoiled", again, x -> x.done(1), 12);
        Bench.still("so none is right", again, x -> x.done(0), 0);
    }

    /** "A row comes to the BOOK: how many there are (sheet -1: it is empty then, 0 ..). BAD: ..; FULL: 8." */
    private static void promise27() {
        told("book", (x, sheet, side, page) -> x.book(sheet, side, page), 5, 8);
    }

    /** "LOOKED at; -5." */
    private static void promise28() {
        none("looked()", x -> x.looked(), NOWHERE);
        some("looked(): the second", x -> x.looked(), 1);
        full("looked(): all are so", x -> x.looked(), NOWHERE);
        Supplier<BothSidesSheet> none = () -> answered(Bench.full(), x -> x.book(-1, 0, 0));
        Bench.still("no rows", none, x -> x.looked(), NOWHERE);
        Supplier<BothSidesSheet> last = EdgeTest::eightBooked;
        Bench.still("the eighth", last, x -> x.looked(), 7);
    }

    private static BothSidesSheet eightBooked() {
        BothSidesSheet x = Bench.right(12);
        for (int i = 0; i < 7; i++) {
            x.book(i, 1, 2 * i + 2);
        }
        x.book(11, 0, 24);
        return x;
    }

    // ---- judging, the image, acts, tapes

    /** "JUDGED from place i of a TAPE on. NONE: tape; CAST: it is no row of bytes." */
    private static void promise29() {
        for (int tape : new int[] {MIN, -1, 6, MAX}) {
            each("judge(" + tape + ", 0)", x -> x.judge(tape, 0), NONE);
            each("judge(" + tape + ", -1)", x -> x.judge(tape, -1), NONE);
        }
        for (int tape = 1; tape <= 4; tape++) {
            int it = tape;
            for (int place : new int[] {MIN, -1, 0, 3, 4, MAX}) {
                some("judge(" + tape + ", " + place + ")", x -> x.judge(it, place), CAST);
            }
            Bench.still("CAST, though there are no sheets", () -> answered(Bench.some(), x -> x.empty()),
                    x -> x.judge(it, 0), CAST);
        }
        none("judge(0, 0)", x -> x.judge(0, 0), NOWHERE);
        none("judge(5, -1)", x -> x.judge(5, -1), NOWHERE);
        some("judge(5, 0): it holds nothing", x -> x.judge(5, 0), 100);
        some("judge(0, -1): below 0", x -> x.judge(0, -1), 100);
        some("judge(0, MIN): below 0", x -> x.judge(0, MIN), 100);
        some("judge(0, 4): at its end", x -> x.judge(0, 4), 100);
        some("judge(0, MAX): beyond it", x -> x.judge(0, MAX), 100);
        some("judge(0, 3): it ends", x -> x.judge(0, 3), 101);
        some("judge(0, 2): it ends", x -> x.judge(0, 2), 102);
        some("judge(0, 0): the second is otherwise", x -> x.judge(0, 0), 1);
        some("judge(0, 1): the first is otherwise", x -> x.judge(0, 1), 0);
    }

    /** "THE IMAGE is taken: how many SHEETS there are." "All is as THE IMAGE: how many SHEETS. STATE:
     * there is none." */
    private static void promise30And31() {
        none("undo()", x -> x.undo(), STATE);
        Bench.still("undo() without one", () -> Bench.right(12), x -> x.undo(), STATE);
        for (int sheets = 0; sheets <= 12; sheets++) {
            BothSidesSheet x = Bench.with(sheets);
            due("image()", x.image(), sheets);
            due("nothing is otherwise by it", x.count(0), sheets);
            x.empty();
            x.load(6);
            due("undo()", x.undo(), sheets);
            due("the sheets are there", x.count(0), sheets);
            x.empty();
            due("undo() again", x.undo(), sheets);
        }
        due("the image of a full one", Bench.full().undo(), 12);
        due("the image of one in the middle", Bench.some().undo(), 3);
        BothSidesSheet x = Bench.some();
        due("a later image", x.image(), 4);
        x.empty();
        due("is the one", x.undo(), 4);
        BothSidesSheet none = new BothSidesSheet();
        none.image();
        Bench.feed(none, "till 1");
        none.job();
        none.tray(0, 0);
        none.tray(6, 9);
        none.row(1, 0, 9);
        none.load(12);
        none.run(0, 0);
        due("the image of a new one", none.undo(), 0);
        due("no trays", none.count(1), 0);
        due("but its job", none.jobs(0, 1), 1);
        none.tray(6, 0);
        due("a tray then is a new one", none.of(0, 2), 0);
        due("its row, too", none.row(0, 0, 0), 0);
        none.tray(6, 0);
        due("the second one's row, too", none.row(1, 0, 0), 0);
    }

    /** "An ACT .. 0, and no TRACE then: no such TRAY, act." */
    private static void promise32() {
        none("act(0, 0, 5)", x -> x.act(0, 0, 5), 0);
        int[][] refused = {{-1, 0}, {2, 0}, {MIN, 1}, {MAX, 2}, {0, -1}, {0, 3}, {0, MIN}, {0, MAX}, {2, 3}};
        for (int[] row : refused) {
            BothSidesSheet x = Bench.some();
            due("a trace first", x.count(7), 12);
            due("act(" + row[0] + ", " + row[1] + ", 5)", x.act(row[0], row[1], 5), 0);
            due("no bodies then", x.count(7), 0);
            due("no trace then", x.trace(0), NONE);
            Bench.still("all else is as it was", () -> answered(Bench.some(), y -> y.act(0, 3, 0)),
                    y -> y.act(row[0], row[1], 5), 0);
        }
        BothSidesSheet x = Bench.full();
        due("the last tray feeds", x.act(4, 0, 5), 9);
        due("the last tray prints", x.act(4, 1, 5), 0);
        due("the last tray tells", x.act(4, 2, 5), 0 * 2 + 5 - 9);
        due("the first tray feeds", x.act(0, 0, 5), 5);
        due("an act of 0 has a trace", x.act(0, 0, 0) + x.count(7), 2);
    }

    /** "THE TRACE's i-th body. NONE." */
    private static void promise33() {
        for (int i : new int[] {MIN, -1, 12, 19, 20, 21, MAX}) {
            each("trace(" + i + ")", x -> x.trace(i), NONE);
        }
        none("trace(0)", x -> x.trace(0), NONE);
        some("trace(0)", x -> x.trace(0), 40);
        some("trace(11)", x -> x.trace(11), 10);
        BothSidesSheet x = Bench.some();
        x.act(1, 0, 0);
        due("the first", x.trace(0), 50);
        due("the last", x.trace(1), 10);
        due("one more", x.trace(2), NONE);
    }

    /** "BAD: k; NOTHING: no such TRAY; CAST." */
    private static void promise34() {
        for (int k : new int[] {MIN, -1, 7, MAX}) {
            each("taken(0, " + k + "): BAD is first", x -> x.taken(0, k), BAD);
            each("taken(9, " + k + "): BAD is first", x -> x.taken(9, k), BAD);
        }
        for (int tray : new int[] {MIN, -1, 5, MAX}) {
            each("taken(" + tray + ", 0)", x -> x.taken(tray, 0), NOTHING);
            each("taken(" + tray + ", 6)", x -> x.taken(tray, 6), NOTHING);
        }
        some("taken(2, 0)", x -> x.taken(2, 0), NOTHING);
        some("taken(0, 6)", x -> x.taken(0, 6), 6);
        some("taken(0, 3)", x -> x.taken(0, 3), 6);
        some("taken(0, 0)", x -> x.taken(0, 0), 6);
        some("taken(0, 4)", x -> x.taken(0, 4), CAST);
        some("taken(1, 6)", x -> x.taken(1, 6), CAST);
        full("taken(4, 6): the one above is none of those under it", x -> x.taken(4, 6), CAST);
        full("taken(4, 3)", x -> x.taken(4, 3), 3);
    }

    /** "How many: 0 SHEETS, 1 TRAYS, 2 JOBS, 3 SEEN, 4 of the PLAN, 5 of the BOOK, 6 bytes of THE
     * TEXT, 7 bodies that ran .. (all, kept or not). BAD." */
    private static void promise35() {
        for (int what : new int[] {MIN, -1, 8, MAX}) {
            each("count(" + what + ")", x -> x.count(what), BAD);
        }
        long[] middle = {4, 2, 2, 2, 2, 2, 3, 12};
        long[] most = {12, 5, 6, 5, 6, 8, 100, 12};
        for (int what = 0; what <= 7; what++) {
            int it = what;
            none("count(" + what + ")", x -> x.count(it), 0);
            some("count(" + what + ")", x -> x.count(it), middle[what]);
            full("count(" + what + ")", x -> x.count(it), most[what]);
        }
    }

    /** "A TAPE becomes a row of n (0 .. 60) of a sort, all 0, or holds nothing (sort -1: n does not
     * matter): 1. NONE: tape; BAD: sort, n above 60; SIZE." */
    private static void promise36() {
        for (int tape : new int[] {MIN, -1, 6, MAX}) {
            each("tape(" + tape + ", 0, 0)", x -> x.tape(tape, 0, 0), NONE);
            each("tape(" + tape + ", -1, 0)", x -> x.tape(tape, -1, 0), NONE);
            each("tape(" + tape + ", 5, 61): NONE is first", x -> x.tape(tape, 5, 61), NONE);
            each("tape(" + tape + ", 0, -1): NONE is first", x -> x.tape(tape, 0, -1), NONE);
        }
        for (int sort : new int[] {MIN, -2, 5, MAX}) {
            each("tape(0, " + sort + ", 0)", x -> x.tape(0, sort, 0), BAD);
            each("tape(0, " + sort + ", -1): BAD is first", x -> x.tape(0, sort, -1), BAD);
            each("tape(5, " + sort + ", 61)", x -> x.tape(5, sort, 61), BAD);
        }
        for (int sort = 0; sort <= 4; sort++) {
            int it = sort;
            each("tape(0, " + sort + ", 61)", x -> x.tape(0, it, 61), BAD);
            each("tape(5, " + sort + ", MAX)", x -> x.tape(5, it, MAX), BAD);
            each("tape(0, " + sort + ", -1)", x -> x.tape(0, it, -1), SIZE);
            each("tape(5, " + sort + ", MIN)", x -> x.tape(5, it, MIN), SIZE);
            taken36(sort);
        }
        for (int n : new int[] {MIN, -1, 0, 60, 61, MAX}) {
            BothSidesSheet x = Bench.full();
            due("holds nothing, n " + n, x.tape(5, -1, n), 1);
            due("nothing is there", x.item(5, 0, 0), NOTHING);
            due("nothing is there", x.read(5, 0), NO);
            due("the others stay", x.read(4, 59), 1);
            none("tape(0, -1, " + n + "): nothing as before", y -> y.tape(0, -1, n), 1);
        }
    }

    private static void taken36(int sort) {
        BothSidesSheet x = new BothSidesSheet();
        for (int tape : new int[] {0, 5}) {
            due("a row of 0", x.tape(tape, sort, 0), 1);
            due("there is a row", x.item(tape, 0, 1), PLACE);
            due("a row of 1", x.tape(tape, sort, 1), 1);
            due("its one item", x.read(tape, 0), 0);
            due("a row of 60", x.tape(tape, sort, 60), 1);
            for (int i = 0; i < 60; i++) {
                due("all 0", x.read(tape, i), 0);
            }
            due("its end", x.read(tape, 60), NO);
            x.item(tape, 0, 1);
            x.item(tape, 59, 1);
            x.tape(tape, sort, 60);
            due("all 0 again", x.read(tape, 0) + x.read(tape, 59), 0);
        }
        BothSidesSheet full = Bench.full();
        due("in the place of another", full.tape(3, sort, 2), 1);
        due("shorter then", full.read(3, 2), NO);
        due("and then longer", full.tape(3, sort, 60), 1);
        due("all 0", full.read(3, 59), 0);
    }

    /** "Item i of a TAPE becomes v (its lowest bits ..; booleans: whether v is not 0): 1. NONE;
     * NOTHING; PLACE." */
    private static void promise37() {
        for (int tape : new int[] {MIN, -1, 6, MAX}) {
            each("item(" + tape + ", 0, 1)", x -> x.item(tape, 0, 1), NONE);
            each("item(" + tape + ", -1, 1): NONE is first", x -> x.item(tape, -1, 1), NONE);
        }
        for (int place : new int[] {MIN, -1, 0, 59, 60, MAX}) {
            none("item(0, " + place + ", 1): ahead of PLACE", x -> x.item(0, place, 1), NOTHING);
            some("item(5, " + place + ", 1): ahead of PLACE", x -> x.item(5, place, 1), NOTHING);
        }
        for (int sort = 0; sort <= 4; sort++) {
            int it = sort;
            for (int place : new int[] {MIN, -1, 4, MAX}) {
                some("item(" + sort + ", " + place + ", 1)", x -> x.item(it, place, 1), PLACE);
            }
            full("item(" + sort + ", 60, 1)", x -> x.item(it, 60, 1), PLACE);
            due("the first place", Bench.full().item(sort, 0, 1), 1);
            due("the last place", Bench.full().item(sort, 59, 1), 1);
        }
        Bench.still("of a row of none", () -> answered(new BothSidesSheet(), x -> x.tape(0, 0, 0)),
                x -> x.item(0, 0, 1), PLACE);
        lowest(Bench.BYTES, 127, 127, 128, -128, -129, 127, 256, 0);
        lowest(Bench.SHORTS, 32767, 32767, 32768, -32768, -32769, 32767, 65536, 0);
        lowest(Bench.INTS, MAX, MAX, 1L + MAX, MIN, MIN - 1L, MAX, 1L << 32, 0);
        lowest(Bench.LONGS, Long.MAX_VALUE, Long.MAX_VALUE, Long.MIN_VALUE, Long.MIN_VALUE, -1, -1);
        lowest(Bench.BOOLEANS, 0, 0, 1, 1, 2, 1, -1, 1, 256, 1, 1L << 32, 1, Long.MIN_VALUE, 1);
    }

    /** What an item of a sort becomes by this, and this, .. */
    private static void lowest(int sort, long... pairs) {
        BothSidesSheet x = new BothSidesSheet();
        x.tape(2, sort, 3);
        for (int i = 0; i + 1 < pairs.length; i += 2) {
            due("item", x.item(2, 1, pairs[i]), 1);
            due(pairs[i] + " in sort " + sort, x.read(2, 1), pairs[i + 1]);
            due("the one ahead stays", x.read(2, 0), 0);
            due("the one behind stays", x.read(2, 2), 0);
        }
    }

    /** "Item i of a TAPE. NO: no such TAPE, nothing there, no such place." */
    private static void promise38() {
        for (int n : new int[] {MIN, -1, 60, MAX}) {
            each("read(" + n + ", 0)", x -> x.read(n, 0), NO);
            for (int tape = 0; tape <= 5; tape++) {
                int it = tape;
                each("read(" + tape + ", " + n + ")", x -> x.read(it, n), NO);
            }
        }
        each("read(6, 0)", x -> x.read(6, 0), NO);
        none("read(5, 0)", x -> x.read(5, 0), NO);
        some("read(5, 0): nothing there", x -> x.read(5, 0), NO);
        long[] sevens = {7, 7, 7, 7, 1};
        for (int sort = 0; sort <= 4; sort++) {
            int it = sort;
            some("read(" + sort + ", 1)", x -> x.read(it, 1), sevens[sort]);
            some("read(" + sort + ", 3): the last", x -> x.read(it, 3), 0);
            some("read(" + sort + ", 4): one more", x -> x.read(it, 4), NO);
            full("read(" + sort + ", 0): the first", x -> x.read(it, 0), 0);
            full("read(" + sort + ", 59): the last", x -> x.read(it, 59), 1);
        }
        BothSidesSheet x = Bench.with(0);
        x.tape(0, Bench.LONGS, 1);
        x.item(0, 0, Long.MIN_VALUE);
        due("NO's own number may be there", x.read(0, 0), NO);
    }

    /** "n items of a TAPE from i on come to another one (or the same) from j on, as they all were
     * before: n. NONE: tapes; NOTHING; CAST: of unlike sorts; PLACE: n, i or j is below 0, or beyond
     * either's end." */
    private static void promise39() {
        for (int n : new int[] {MIN, -1, 6, MAX}) {
            each("shift(" + n + ", 0, 0, 0, 0)", x -> x.shift(n, 0, 0, 0, 0), NONE);
            each("shift(0, 0, " + n + ", 0, 0)", x -> x.shift(0, 0, n, 0, 0), NONE);
            each("shift(" + n + ", -1, 0, -1, -1): NONE is first", x -> x.shift(n, -1, 0, -1, -1), NONE);
        }
        some("shift(5, 0, 6, 0, 0): NONE is first", x -> x.shift(5, 0, 6, 0, 0), NONE);
        none("shift(0, 0, 5, 0, 0)", x -> x.shift(0, 0, 5, 0, 0), NOTHING);
        for (int n : new int[] {MIN, -1, 0, 61, MAX}) {
            some("from nothing: ahead of PLACE", x -> x.shift(5, n, 0, 0, 0), NOTHING);
            some("to nothing: ahead of PLACE", x -> x.shift(0, 0, 5, n, 0), NOTHING);
            some("to nothing: ahead of PLACE", x -> x.shift(0, 0, 5, 0, n), NOTHING);
            some("unlike sorts: ahead of PLACE", x -> x.shift(0, n, 1, 0, 0), CAST);
            some("unlike sorts: ahead of PLACE", x -> x.shift(0, 0, 4, n, 0), CAST);
            some("unlike sorts: ahead of PLACE", x -> x.shift(3, 0, 2, 0, n), CAST);
        }
        for (int sort = 0; sort <= 4; sort++) {
            for (int other = 0; other <= 4; other++) {
                int from = sort;
                int to = other;
                some("sorts " + from + " and " + to, x -> x.shift(from, 0, to, 0, 0), from == to ? 0 : CAST);
            }
        }
        places39();
        shifted39();
    }

    /** A row of 4, another of 6, each item its own number. */
    private static BothSidesSheet rows(int sort) {
        BothSidesSheet x = new BothSidesSheet();
        x.tape(0, sort, 4);
        x.tape(5, sort, 6);
        for (int i = 0; i < 6; i++) {
            x.item(0, i, i + 1);
            x.item(5, i, i + 11);
        }
        return x;
    }

    private static void places39() {
        Supplier<BothSidesSheet> rows = () -> rows(Bench.BYTES);
        int[][] refused = {{0, 0, -1}, {-1, 0, 0}, {0, -1, 0}, {-1, -1, -1}, {0, 0, 5}, {1, 0, 4}, {4, 0, 1},
            {5, 0, 0}, {0, 3, 4}, {0, 6, 1}, {0, 7, 0}, {MAX, 0, 1}, {0, MAX, 1}, {0, 0, MAX}, {MIN, 0, 1},
            {0, MIN, 1}, {0, 0, MIN}, {MAX, MAX, MAX}, {1, 0, MAX}, {0, 1, MAX}, {MAX, 0, 0}, {0, MAX, 0}};
        for (int[] row : refused) {
            Bench.still("shift(0, " + row[0] + ", 5, " + row[1] + ", " + row[2] + ")", rows,
                    x -> x.shift(0, row[0], 5, row[1], row[2]), PLACE);
        }
        Bench.still("beyond the other's end", rows, x -> x.shift(5, 0, 0, 0, 5), PLACE);
        Bench.still("beyond its own end", rows, x -> x.shift(0, 0, 0, 1, 4), PLACE);
        Bench.still("none at the ends", rows, x -> x.shift(0, 4, 5, 6, 0), 0);
        Bench.still("none at the beginnings", rows, x -> x.shift(0, 0, 5, 0, 0), 0);
        Bench.still("all to itself", rows, x -> x.shift(0, 0, 0, 0, 4), 4);
    }

    private static void items(String name, BothSidesSheet x, int tape, long... want) {
        for (int i = 0; i < want.length; i++) {
            due(name + ", item " + i, x.read(tape, i), want[i]);
        }
    }

    private static void shifted39() {
        for (int sort = 0; sort <= 3; sort++) {
            BothSidesSheet x = rows(sort);
            due("to the other's end", x.shift(0, 0, 5, 2, 4), 4);
            items("to the other's end", x, 5, 11, 12, 1, 2, 3, 4);
            items("the first stays", x, 0, 1, 2, 3, 4);
            x = rows(sort);
            due("from its end", x.shift(5, 5, 0, 0, 1), 1);
            items("from its end", x, 0, 16, 2, 3, 4);
            x = rows(sort);
            due("up within one, as they were", x.shift(5, 0, 5, 1, 5), 5);
            items("up within one", x, 5, 11, 11, 12, 13, 14, 15);
            x = rows(sort);
            due("down within one, as they were", x.shift(5, 1, 5, 0, 5), 5);
            items("down within one", x, 5, 12, 13, 14, 15, 16, 16);
        }
        BothSidesSheet x = new BothSidesSheet();
        x.tape(1, Bench.BOOLEANS, 60);
        x.tape(2, Bench.BOOLEANS, 60);
        x.item(1, 59, 1);
        due("sixty", x.shift(1, 0, 2, 0, 60), 60);
        due("the last of them", x.read(2, 59), 1);
    }

    public static void main(String[] args) {
        promise1();
        promise2();
        promise3();
        promise4();
        promise5();
        promise6();
        promise7();
        promise8();
        promise9();
        promise10();
        promise11();
        promise12();
        promise13();
        promise14();
        promise15();
        promise16();
        promise17();
        promise18();
        promise19();
        promise20();
        promise21();
        promise22();
        promise23();
        promise24();
        promise25();
        promise26();
        promise27();
        promise28();
        promise29();
        promise30And31();
        promise32();
        promise33();
        promise34();
        promise35();
        promise36();
        promise37();
        promise38();
        promise39();
        Due.end("EdgeTest");
    }
}
