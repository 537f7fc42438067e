/**
 * The sentences of "Terms" 2 and 3 that name a boundary: what is asked, what is told by hand,
 * acts, the image, tapes. Each test has its sentence ahead of it.
 */
public final class AskedTest {
    private AskedTest() { }

    private static void due(String call, long got, long want) {
        Due.is(call, got, want);
    }

    /** One sheet with page 2 below; trays 1 to 4 with these kinds and vs. Page 1 makes it right. */
    private static BothSidesSheet half(int... kindsAndVs) {
        BothSidesSheet x = Bench.with(1, Bench.FLIPPING, 0);
        Bench.run(x, 0, "from 2;till 2");
        for (int i = 0; i + 1 < kindsAndVs.length; i += 2) {
            x.tray(kindsAndVs[i], kindsAndVs[i + 1]);
        }
        return x;
    }

    // ---- after runs

    /** "AFTER a RUN of a TRAY with a JOB: how many SHEETS are RIGHT; how many PAGES were printed
     * (spoiled ones, too); how many sides of all SHEETS are spoiled; what is on the UPPER, the
     * LOWER side of one." */
    private static void after() {
        BothSidesSheet x = Bench.with(12, Bench.FLIPPING, 0, Bench.TRAY, 0);
        int odd = Bench.job(x, "skip o=0");
        Bench.run(x, 0, "skip o=1");
        due("none spoiled", x.after(1, odd, 2), 0);
        due("twelve printed", x.after(1, odd, 1), 12);
        due("the first upper side", x.after(1, odd, 10), 23);
        due("the last upper side", x.after(1, odd, 21), 1);
        due("the first lower side", x.after(1, odd, 30), 2);
        due("the last lower side", x.after(1, odd, 41), 24);
        x.run(1, odd);
        due("spoiled ones are printed, too", x.after(1, odd, 1), 12);
        due("all sides above are spoiled", x.after(1, odd, 2), 12);
        due("so one there", x.after(1, odd, 10), 99);
        BothSidesSheet right = half(Bench.TRAY, 0);
        int one = Bench.job(right, "till 1");
        due("right then", right.after(1, one, 0), 1);
        due("but not now", right.told(0), 0);
        BothSidesSheet none = Bench.with(0, Bench.TRAY, 0);
        Bench.job(none, "till 9");
        due("of no sheets", none.after(0, 0, 0) + none.after(0, 0, 1) + none.after(0, 0, 2), 0);
        due("no sheet 0", none.after(0, 0, 10), Bench.NONE);
        due("no sheet 0", none.after(0, 0, 30), Bench.NONE);
    }

    /** "BEST of a JOB: .. (of several the first; -5: there are none)" */
    private static void best() {
        BothSidesSheet none = Bench.with(3);
        Bench.job(none, "till 1");
        due("there are none", none.best(0), Bench.NOWHERE);
        BothSidesSheet x = half(Bench.TRAY, 1, Bench.DAMP, 9, Bench.TURNING, 0, Bench.TRAY, 9);
        due("of several the first", x.best(Bench.job(x, "till 1")), 1);
        due("of others", x.best(Bench.job(x, "skip v=1;till 1")), 2);
        due("the last alone", x.best(Bench.job(x, "skip k>0;skip v=1;till 1")), 4);
        due("none is right by any: the first", x.best(Bench.job(x, "from 9")), 0);
    }

    /** "USES ..: how many SHEETS it would take, were THE STACK 12 blank ones." */
    private static void uses() {
        int[] stacks = {0, 1, 12};
        for (int sheets : stacks) {
            BothSidesSheet x = Bench.with(sheets, Bench.TRAY, 0, Bench.DAMP, 1, Bench.CURLED, 0);
            int all = Bench.job(x, "till 24");
            int seven = Bench.job(x, "till 7");
            int idle = Bench.job(x, Bench.IDLE);
            x.run(0, all);
            due("12 at most, with " + sheets, x.uses(0, all), 12);
            due("one for each page", x.uses(0, seven), 7);
            due("damp: more go through", x.uses(1, seven), 10);
            due("curled: one", x.uses(2, all), 1);
            due("none", x.uses(0, idle), 0);
        }
    }

    // ---- ways

    /** "A WAY ..: 0 nothing, 1 it is turned over, 2 each SHEET is turned ABOUT, 3 it is turned over,
     * then each ABOUT." */
    private static void ways() {
        String[] want = {"2/0 1v/0", "0/1v 0/2", "2v/0v 1/0v", "0v/1 0v/2v"};
        for (int way = 0; way <= 3; way++) {
            BothSidesSheet x = Bench.with(2, Bench.TRAY, 0);
            Bench.run(x, 0, "turn p=1");
            due("right then", x.turn(way), 0);
            Bench.lies("way " + way, x, want[way]);
        }
        BothSidesSheet none = new BothSidesSheet();
        for (int way = 0; way <= 3; way++) {
            due("of no sheets", none.turn(way), 0);
        }
    }

    /** "WAY of two RUNS ..: the WAY in between by which most are RIGHT behind both (of several the
     * first); how many." */
    private static void way() {
        BothSidesSheet x = Bench.with(1, Bench.TRAY, 0, Bench.FLIPPING, 0);
        int two = Bench.job(x, "from 2;till 2");
        int down = Bench.job(x, "from 2;till 2;turn p>0");
        int one = Bench.job(x, "till 1");
        due("flipped: nothing", x.way(1, two, 0, one, 0), 0);
        due("as it is: over", x.way(0, two, 0, one, 0), 1);
        due("flipped, head down: about", x.way(1, down, 0, one, 0), 2);
        due("as it is, head down: over, about", x.way(0, down, 0, one, 0), 3);
        due("one by it", x.way(0, down, 0, one, 1), 1);
        due("none by any: the first", x.way(0, two, 0, two, 0), 0);
        due("none", x.way(0, two, 0, two, 1), 0);
        due("the other one's lower side", x.way(0, one, 1, two, 1), 1);
        due("by over", x.way(0, one, 1, two, 0), 1);
        BothSidesSheet none = Bench.with(0, Bench.TRAY, 0);
        int job = Bench.job(none, "till 1");
        due("of no sheets the first", none.way(0, job, 0, job, 0), 0);
        due("none of no sheets", none.way(0, job, 0, job, 1), 0);
    }

    /** "TWICE of two JOBS: .. (of several the first as a row): 100 times the first TRAY, 10 times the
     * WAY, and the second TRAY (-5: there are none); how many." */
    private static void twice() {
        BothSidesSheet x = Bench.with(1);
        int two = Bench.job(x, "from 2;till 2;skip v<9");
        int down = Bench.job(x, "from 2;till 2;turn p>0;skip v<9");
        int one = Bench.job(x, "till 1;skip v<9");
        due("there are none", x.twice(two, one, 0), Bench.NOWHERE);
        due("how many: there are none", x.twice(two, one, 1), 0);
        x.tray(Bench.TRAY, 0);
        due("none by one: the first", x.twice(two, one, 0), 0);
        due("none by one", x.twice(two, one, 1), 0);
        x.tray(Bench.TRAY, 1);
        x.tray(Bench.TRAY, 2);
        x.tray(Bench.TRAY, 3);
        x.tray(Bench.TRAY, 9);
        due("the last row", x.twice(down, one, 0), 434);
        due("how many", x.twice(down, one, 1), 1);
        due("the way before it", x.twice(two, one, 0), 414);
        int any = Bench.job(x, "till 1");
        due("of several the first second tray", x.twice(two, any, 0), 410);
        int early = Bench.job(x, "from 2;till 2");
        due("of several the first tray", x.twice(early, any, 0), 10);
        due("though more would be by none", x.twice(early, any, 1), 1);
        due("the first tray, a later second", x.twice(early, one, 0), 14);
    }

    // ---- what is missing, where one is

    /** "MISSING: those PAGES of 1 .. 24, as bits (bit 0: PAGE 1), that are on no side." */
    private static void missing() {
        due("all of no sheets", new BothSidesSheet().told(3), 0xffffff);
        due("all of blank ones", Bench.with(12).told(3), 0xffffff);
        for (int page = 1; page <= 24; page++) {
            BothSidesSheet x = Bench.with(2, Bench.FLIPPING, 0, Bench.TRAY, 0);
            Bench.run(x, page % 2, "from " + page + ";till " + page);
            due("but page " + page, x.told(3), 0xffffff ^ 1 << page - 1);
            x.turn(2);
            due("head down or not", x.told(3), 0xffffff ^ 1 << page - 1);
        }
        due("none", Bench.right(12).told(3), 0);
        BothSidesSheet x = Bench.with(1, Bench.TOLD, 0, Bench.TRAY, 0);
        x.row(0, 0, 1);
        Bench.run(x, 0, "from 24");
        due("25 is none of them", x.told(3), 0xffffff);
        BothSidesSheet spoiled = Bench.with(1, Bench.TRAY, 0);
        Bench.run(spoiled, 0, "till 1");
        spoiled.run(0, 0);
        due("nor what is spoiled", spoiled.told(3), 0xffffff);
    }

    /** "FIND a PAGE (1 .. 60): where it is: 10 times the SHEET, and 0 UPPER, 1 LOWER (of several the
     * first; -5: nowhere)." */
    private static void find() {
        BothSidesSheet x = Bench.right(12);
        for (int page = 1; page <= 24; page++) {
            due("page " + page, x.find(page), (page - 1) / 2 * 10 + (page - 1) % 2);
        }
        for (int page = 25; page <= 60; page++) {
            due("nowhere", x.find(page), Bench.NOWHERE);
        }
        due("of no sheets", new BothSidesSheet().find(1), Bench.NOWHERE);
        BothSidesSheet two = Bench.with(2, Bench.FLIPPING, 0);
        Bench.run(two, 0, "from 5");
        two.run(0, 0);
        Bench.lies("each page twice", two, "5/6 6/5");
        due("of several the first: upper ahead of lower", two.find(5), 0);
        due("the first sheet's lower ahead of the next one's upper", two.find(6), 1);
        BothSidesSheet both = Bench.with(1, Bench.FLIPPING, 0);
        Bench.run(both, 0, "from 5;till 5");
        both.run(0, 0);
        due("both sides of one", both.find(5), 0);
    }

    // ---- what is seen

    /** "SEEN told by hand: a SHEET (0 .. 11), its side .., what is on it (0 .. 60, or 99; 5 at most; of
     * a SHEET that there is not: 0). WHICH of a JOB: those TRAYS, as bits .. all of SEEN is so." */
    private static void seen() {
        BothSidesSheet x = Bench.with(2, Bench.TRAY, 0, Bench.FLIPPING, 0, Bench.DAMP, 0, Bench.TOLD, 9,
                Bench.TRAY, 9);
        int job = Bench.job(x, "from 7");
        due("nothing seen: all", x.which(job), 31);
        x.see(1, 0, 7);
        due("all but the one that flips", x.which(job), 29);
        x.see(0, 0, 8);
        due("nor the damp one", x.which(job), 25);
        x.see(2, 0, 0);
        x.see(11, 1, 0);
        due("of sheets that there are not: 0", x.which(job), 25);
        due("by v", x.which(Bench.job(x, "from 7;skip v=0")), 24);
        x.see(2, 1, 60);
        due("of a sheet that there is not nothing else", x.which(job), 0);
        x.see(-1, 0, 0);
        due("nothing seen again: all", x.which(job), 31);
        x.see(1, 1, 7);
        due("the second alone", x.which(job), 2);
        due("none", x.which(Bench.job(x, Bench.IDLE)), 0);
        BothSidesSheet last = half(Bench.FLIPPING, 0, Bench.FLIPPING, 0, Bench.FLIPPING, 0, Bench.TRAY, 0);
        last.see(0, 0, 1);
        due("the last bit", last.which(Bench.job(last, "till 1")), 16);
        BothSidesSheet spoiled = Bench.with(1, Bench.TRAY, 0);
        Bench.run(spoiled, 0, "turn p>0");
        spoiled.see(0, 0, 99);
        due("99: spoiled", spoiled.which(0), 1);
        spoiled.see(0, 1, 99);
        due("the other side is not", spoiled.which(0), 0);
        BothSidesSheet none = Bench.with(2);
        due("no trays", none.which(Bench.job(none, "till 1")), 0);
    }

    /** "CAN of a TRAY and a JOB: how many numbers v (0 .. 9) there are by which, were that its v now,
     * all of SEEN is so after a RUN; the least (-5: none)." */
    private static void can() {
        for (int v = 0; v <= 9; v++) {
            BothSidesSheet x = Bench.with(1, Bench.TRAY, 9 - v);
            int job = Bench.job(x, "till 1;skip v<" + v + ";skip v>" + v);
            due("nothing seen: each", x.can(0, job, 0), 10);
            due("the least of all", x.can(0, job, 1), 0);
            x.see(0, 0, 1);
            due("just " + v, x.can(0, job, 0), 1);
            due("the least is " + v, x.can(0, job, 1), v);
            int more = Bench.job(x, "till 1;skip v<" + v);
            due("each from " + v + " on", x.can(0, more, 0), 10 - v);
            due("the least is " + v, x.can(0, more, 1), v);
            x.see(0, 0, 2);
            due("none", x.can(0, job, 0), 0);
            due("no least", x.can(0, job, 1), Bench.NOWHERE);
            due("its v stays", x.of(0, 1), 9 - v);
        }
    }

    /** "of a SHEET that there is not: 0", though there was one, and something lay on it. */
    private static void gone() {
        for (int sheets = 0; sheets <= 11; sheets++) {
            BothSidesSheet x = Bench.right(12);
            x.book(11, 0, 23);
            x.book(sheets, 0, 2 * sheets + 1);
            due("all are there", x.looked(), Bench.NOWHERE);
            x.empty();
            if (sheets > 0) {
                x.load(sheets);
            }
            due("the lowest is gone", x.looked(), 0);
            x.book(-1, 0, 0);
            x.book(11, 1, 0);
            x.book(sheets, 0, 0);
            x.book(sheets, 1, 2 * sheets + 2);
            due("nothing lies on one that is gone", x.looked(), 2);
            int idle = Bench.job(x, Bench.IDLE);
            x.see(sheets, 1, 0);
            x.see(11, 0, 0);
            due("nor is seen on it", x.which(idle), 3);
            due("by any v", x.can(0, idle, 0), 10);
            x.see(sheets, 0, 2 * sheets + 1);
            due("what lay there is not", x.which(idle), 0);
            due("by any v", x.can(0, idle, 1), Bench.NOWHERE);
            due("nor found", x.find(24), Bench.NOWHERE);
            due("nor told of", x.sheet(sheets, 0), Bench.NONE);
            due("nor after a run", x.after(0, idle, 10 + sheets), Bench.NONE);
        }
    }

    // ---- odds, means

    /** "ODDS of a JOB and q (0 .. 12): .. how likely q or more SHEETS are RIGHT after a RUN: a
     * fraction in lowest terms (NO: there are none)." */
    private static void odds() {
        BothSidesSheet x = half(Bench.TRAY, 1, Bench.TRAY, 2, Bench.TRAY, 3, Bench.TRAY, 4);
        int none = Bench.job(x, "from 9");
        fraction("0 or more", x, none, 0, 1, 1);
        fraction("1 or more of none", x, none, 1, 0, 1);
        fraction("4 of 5", x, Bench.job(x, "till 1"), 1, 4, 5);
        fraction("1 of 5", x, Bench.job(x, "till 1;skip v<4"), 1, 1, 5);
        fraction("2 or more of one sheet", x, 1, 2, 0, 1);
        BothSidesSheet four = half(Bench.TRAY, 1, Bench.TRAY, 2, Bench.TRAY, 3);
        fraction("2 of 4 is 1 of 2", four, Bench.job(four, "till 1;skip v<2"), 1, 1, 2);
        fraction("3 of 4", four, Bench.job(four, "till 1"), 1, 3, 4);
        BothSidesSheet all = Bench.right(12);
        int idle = Bench.job(all, Bench.IDLE);
        for (int q = 0; q <= 12; q++) {
            fraction(q + " or more, by both", all, idle, q, 1, 1);
        }
        due("13 is too many", all.odds(idle, 13, 0), Bench.NO);
        due("-1 is too few", all.odds(idle, -1, 0), Bench.NO);
        BothSidesSheet eleven = Bench.right(11);
        fraction("11 or more", eleven, Bench.job(eleven, Bench.IDLE), 11, 1, 1);
        fraction("12 or more of 11", eleven, 2, 12, 0, 1);
        BothSidesSheet empty = Bench.with(2);
        int job = Bench.job(empty, "till 1");
        due("no trays", empty.odds(job, 0, 0), Bench.NO);
        due("no trays", empty.odds(job, 0, 1), Bench.NO);
    }

    private static void fraction(String name, BothSidesSheet x, int job, int q, int above, int below) {
        due(name + ", above", x.odds(job, q, 0), above);
        due(name + ", below", x.odds(job, q, 1), below);
    }

    /** "MEAN of a JOB: how many are RIGHT after a RUN, by all TRAYS, together, by how many TRAYS there
     * are: a fraction in lowest terms (NO likewise)." */
    private static void mean() {
        BothSidesSheet x = half(Bench.TRAY, 1, Bench.TRAY, 2, Bench.TRAY, 3);
        fraction("none of 4 is 0 of 1", x, Bench.job(x, "from 9"), 0, 1);
        fraction("3 of 4", x, Bench.job(x, "till 1"), 3, 4);
        fraction("2 of 4 is 1 of 2", x, Bench.job(x, "till 1;skip v<2"), 1, 2);
        x.tray(Bench.TRAY, 4);
        fraction("4 of 5", x, 2, 4, 5);
        BothSidesSheet all = Bench.right(12);
        int idle = Bench.job(all, Bench.IDLE);
        fraction("24 of 2", all, idle, 12, 1);
        all.tray(Bench.TRAY, 0);
        int spoils = Bench.job(all, "skip k<1;till 12");
        fraction("12 of 3", all, spoils, 4, 1);
        BothSidesSheet empty = Bench.with(2);
        int job = Bench.job(empty, "till 1");
        due("no trays", empty.mean(job, 0), Bench.NO);
        due("no trays", empty.mean(job, 1), Bench.NO);
    }

    private static void fraction(String name, BothSidesSheet x, int job, int above, int below) {
        due(name + ", above", x.mean(job, 0), above);
        due(name + ", below", x.mean(job, 1), below);
    }

    // ---- plans, books

    /** "A PLAN told by hand: what is done (0 a RUN .., 1 a WAY (0 .. 3), 2 so many blank SHEETS (1 ..
     * 12) come on top, as many as there is room for; 6 rows at most): DONE: .." */
    private static void planned() {
        BothSidesSheet x = Bench.with(0, Bench.FLIPPING, 0, Bench.TRAY, 0);
        int two = Bench.job(x, "from 2;till 2");
        int one = Bench.job(x, "till 1");
        due("an empty plan of no sheets", x.done(0) + x.done(1), 0);
        x.plan(2, 1, 0);
        x.plan(0, 0, two);
        x.plan(1, 2, 0);
        x.plan(1, 2, 0);
        x.plan(0, 1, one);
        due("five rows, in their order", x.done(0), 1);
        due("none spoiled", x.done(1), 0);
        x.plan(0, 1, one);
        due("the sixth, too: spoiled", x.done(1), 1);
        due("so not right", x.done(0), 0);
        due("a seventh", x.plan(0, 1, one), Bench.FULL);
        Bench.lies("it is not done with the stack", x, "");
        due("nor is it a run", x.of(0, 2), 0);
        for (int way = 0; way <= 3; way++) {
            BothSidesSheet right = Bench.right(2);
            right.plan(1, way, 0);
            due("way " + way, right.done(0), way == 0 ? 2 : 0);
            right.plan(1, way, 0);
            due("way " + way + " twice", right.done(0), 2);
        }
    }

    /** "2 so many blank SHEETS (1 .. 12) come on top, as many as there is room for" */
    private static void plannedSheets() {
        for (int sheets = 1; sheets <= 12; sheets++) {
            BothSidesSheet x = Bench.right(sheets);
            int all = Bench.job(x, "till 24");
            x.plan(2, 1, 0);
            x.plan(0, 0, all);
            due("one more on " + sheets, x.done(1), Math.min(sheets, 11) + sheets / 12);
            x.plan(-1, 0, 0);
            x.plan(2, 12, 0);
            x.plan(0, 0, all);
            due("all there is room for on " + sheets, x.done(1), sheets);
            due("the stack is as it was", x.count(0), sheets);
        }
        BothSidesSheet x = Bench.right(12);
        x.plan(2, 12, 0);
        due("no room: all are right still", x.done(0), 12);
        x = Bench.right(11);
        x.plan(2, 12, 0);
        due("room for one, on top: none is in its place", x.done(0), 0);
    }

    /** "A BOOK told by hand: ..: LOOKED at: the number of the first of these rows by which it is
     * otherwise now (of a SHEET that there is not: 0; -5: none)." */
    private static void looked() {
        BothSidesSheet x = Bench.right(3);
        due("no rows", x.looked(), Bench.NOWHERE);
        x.book(0, 0, 1);
        x.book(0, 1, 2);
        x.book(2, 0, 5);
        x.book(2, 1, 6);
        x.book(3, 0, 0);
        x.book(11, 1, 0);
        x.book(1, 1, 4);
        due("all are so", x.looked(), Bench.NOWHERE);
        x.book(2, 1, 99);
        due("the eighth is otherwise", x.looked(), 7);
        x.turn(2);
        due("head down or not", x.looked(), 7);
        x.load(1);
        due("now the first is", x.looked(), 0);
        x.empty();
        due("and without any sheet", x.looked(), 0);
        BothSidesSheet none = new BothSidesSheet();
        none.book(0, 0, 0);
        none.book(0, 1, 1);
        none.book(0, 1, 2);
        due("of a sheet that there is not: 0", none.looked(), 1);
        BothSidesSheet spoiled = Bench.with(1, Bench.TRAY, 0);
        Bench.run(spoiled, 0, "till 1");
        spoiled.run(0, 0);
        spoiled.book(0, 0, 99);
        due("99: spoiled", spoiled.looked(), Bench.NOWHERE);
        spoiled.book(0, 1, 99);
        due("the lower one is not", spoiled.looked(), 1);
    }

    // ---- acts

    private static void acted(int kind, int act, int x, int want, int... bodies) {
        BothSidesSheet s = Bench.with(0, 0, 0, kind, 9);
        String call = "act " + act + " of kind " + kind + " with " + x;
        due(call, s.act(1, act, x), want);
        due("bodies of " + call, s.count(7), bodies.length);
        for (int i = 0; i < bodies.length; i++) {
            due("body " + i + " of " + call, s.trace(i), bodies[i]);
        }
        for (int i = bodies.length; i <= 21; i++) {
            due("no body " + i + " of " + call, s.trace(i), Bench.NONE);
        }
    }

    /** "ACTS of a TRAY with x (wrapping)": its number is 1, its v 9. */
    private static void actsWrap() {
        int min = Bench.MIN;
        int max = Bench.MAX;
        acted(0, 0, max, min, 10);
        acted(0, 1, min, min + 1 - 9, 11, 10);
        acted(0, 2, max, (min - 9) * 2, 12, 11, 10);
        acted(2, 0, max, max * 3 + 1, 30, 10);
        acted(2, 0, min, min + 1, 30, 10);
        acted(4, 0, max, min, 50, 10);
        acted(4, 1, max, -(min + 1) - 9 ^ 6, 51, 20, 11, 50, 10);
        acted(5, 2, min, (max * 3 + 1 - 9) * 2, 60, 12, 11, 30, 10);
        acted(3, 2, max, (min - 9) * 2 + 2 - 9, 40, 12, 11, 10, 11, 10);
        acted(6, 0, max, min ^ 9, 71, 10);
        acted(6, 1, max, (min ^ 9) - 9 + 3, 70, 11, 71, 10, 10);
        acted(1, 2, max, (min - 9 ^ 6) * 2, 12, 20, 11, 10);
    }

    /** "THE TRACE: the numbers of the bodies that ran in the latest act(), as they began; the first 20
     * are kept." No act runs more than twelve. */
    private static void trace() {
        BothSidesSheet none = Bench.with(0, Bench.TOLD, 1);
        due("none at first", none.trace(0), Bench.NONE);
        due("none at first", none.count(7), 0);
        acted(6, 2, 0, ((0 + 1 ^ 9) - 9 + 3) * 2 + (1 + 1 ^ 9) - 9 + 3,
                40, 12, 70, 11, 71, 10, 10, 70, 11, 71, 10, 10);
        none.act(0, 2, 0);
        due("twelve", none.count(7), 12);
        none.act(0, 0, 0);
        due("of the latest alone", none.count(7), 2);
        due("its last", none.trace(1), 10);
        due("no more of the one before", none.trace(2), Bench.NONE);
        none.act(0, 3, 0);
        due("none of no act", none.count(7), 0);
        due("none of no act", none.trace(0), Bench.NONE);
    }

    // ---- the image

    /** "THE IMAGE: THE STACK, TRAYS with all that is theirs, SEEN, the PLAN, the BOOK (JOBS stay)." */
    private static void image() {
        BothSidesSheet x = Bench.some();
        x.image();
        String was = Bench.told(x);
        x = Bench.some();
        x.image();
        x.run(0, 0);
        x.turn(3);
        x.load(8);
        x.row(0, 0, 1);
        x.row(0, 3, 1);
        x.tray(Bench.CURLED, 3);
        x.run(2, 1);
        x.see(3, 0, 9);
        x.plan(2, 12, 0);
        x.book(-1, 0, 0);
        x.undo();
        Due.holds("all that it holds is as it was", Bench.told(x).equals(was));
        imagedRows();
        imagedTrays();
        x = Bench.full();
        x.undo();
        due("jobs stay", x.count(2), 6);
        due("the text stays", x.count(6), 100);
        due("the trace stays", x.count(7), 12);
        due("tapes stay", x.read(5, 59), 1);
        due("what was seen later is gone", x.count(3), 0);
        due("what was planned later is gone", x.count(4), 0);
        due("what was booked later is gone", x.count(5), 0);
        Bench.lies("the stack is as it was", x,
                "0/0 15/0 0/0 5/0 0/0 13/0 0/0 3/0 0/0 11/0 0/0 1/0");
    }

    /** What is seen, planned, booked: row by row as it was, though others came in their places. */
    private static void imagedRows() {
        for (int row = 0; row < 5; row++) {
            BothSidesSheet x = Bench.with(6, Bench.TRAY, 0);
            Bench.run(x, 0, "till 6");
            int idle = Bench.job(x, Bench.IDLE);
            for (int i = 0; i < 5; i++) {
                x.see(i, 0, i == row ? 60 : 6 - i);
                x.book(i, 0, i == row ? 60 : 6 - i);
                x.plan(i == row ? 0 : 1, 0, 0);
            }
            x.image();
            x.see(-1, 0, 0);
            x.book(-1, 0, 0);
            x.plan(-1, 0, 0);
            for (int i = 0; i < 5; i++) {
                x.see(5, 1, 0);
                x.book(5, 1, 0);
                x.plan(2, 1, 1);
            }
            due("other rows: seen", x.which(idle), 1);
            due("other rows: looked at", x.looked(), Bench.NOWHERE);
            due("other rows: done", x.done(1), 0);
            x.undo();
            due("the row as it was: seen", x.which(idle), 0);
            due("the row as it was: looked at", x.looked(), row);
            due("the row as it was: done", x.done(1), 6);
            due("how many are seen", x.count(3), 5);
            due("how many are planned", x.count(4), 5);
            due("how many are booked", x.count(5), 5);
        }
    }

    /** RAN and ROW of each of five trays. */
    private static void imagedTrays() {
        BothSidesSheet x = Bench.with(1, 6, 0, 6, 1, 6, 2, 6, 3, 6, 4);
        Bench.job(x, Bench.IDLE);
        for (int tray = 0; tray < 5; tray++) {
            x.run(tray, 0);
            for (int part = 0; part < 4; part++) {
                x.row(tray, part, tray + part);
            }
        }
        x.image();
        for (int tray = 0; tray < 5; tray++) {
            x.run(tray, 0);
            for (int part = 0; part < 4; part++) {
                due("a row's number", x.row(tray, part, 9), tray + part);
            }
        }
        x.undo();
        for (int tray = 0; tray < 5; tray++) {
            due("its kind", x.of(tray, 0), 6);
            due("its v", x.of(tray, 1), tray);
            due("RAN as it was", x.of(tray, 2), 1);
            for (int part = 0; part < 4; part++) {
                due("its ROW as it was", x.row(tray, part, 0), tray + part);
            }
        }
    }

    // ---- tapes

    /** "What is on the UPPER sides .. is JUDGED: the first that is otherwise; -5: none, or there is
     * none to look at; 100 and how many were looked at, if the row ends ahead of that (or the place is
     * below 0, or the TAPE holds nothing)." */
    private static void judged() {
        BothSidesSheet x = Bench.right(12);
        x.tape(0, Bench.BYTES, 60);
        for (int i = 0; i < 12; i++) {
            due("the first that is otherwise", x.judge(0, 48), i);
            x.item(0, 48 + i, 2 * i + 1);
        }
        due("none is, to the row's very end", x.judge(0, 48), Bench.NOWHERE);
        due("the row ends at once", x.judge(0, 60), 100);
        for (int held = 0; held <= 11; held++) {
            x.tape(1, Bench.BYTES, held);
            x.shift(0, 48, 1, 0, held);
            due("the row ends ahead of that", x.judge(1, 0), 100 + held);
            due("below 0", x.judge(1, -1), 100);
        }
        x.item(1, 10, 0);
        due("otherwise ahead of where it ends", x.judge(1, 0), 10);
        due("holds nothing", x.judge(2, 0), 100);
        due("far above", x.judge(0, Bench.MAX), 100);
        due("far below", x.judge(0, Bench.MIN), 100);
        x.empty();
        due("none to look at", x.judge(0, 0), Bench.NOWHERE);
        due("none to look at, behind the end", x.judge(0, 60), Bench.NOWHERE);
        due("none to look at, nothing held", x.judge(2, 0), Bench.NOWHERE);
        due("none to look at, below 0", x.judge(0, -1), Bench.NOWHERE);
    }

    /** A side is judged by what is on it: 0 blank, 99 spoiled, whether it is head down or not. */
    private static void judgedSides() {
        BothSidesSheet x = Bench.with(2, Bench.TRAY, 0);
        Bench.run(x, 0, "from 2;till 2");
        x.run(0, 0);
        x.run(0, 0);
        x.run(0, 0);
        x.tape(0, Bench.BYTES, 2);
        x.item(0, 0, 99);
        x.item(0, 1, 99);
        due("spoiled", x.judge(0, 0), Bench.NOWHERE);
        x.turn(2);
        due("head down or not", x.judge(0, 0), Bench.NOWHERE);
        x.turn(1);
        due("the other sides are blank", x.judge(0, 0), 0);
        x.tape(0, Bench.BYTES, 2);
        due("0: blank", x.judge(0, 0), Bench.NOWHERE);
    }

    public static void main(String[] args) {
        after();
        best();
        uses();
        ways();
        way();
        twice();
        missing();
        find();
        seen();
        can();
        gone();
        odds();
        mean();
        planned();
        plannedSheets();
        looked();
        actsWrap();
        trace();
        image();
        judged();
        judgedSides();
        Due.end("AskedTest");
    }
}
