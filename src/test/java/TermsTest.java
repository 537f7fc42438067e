import java.util.Set;

/**
 * The sentences of "Terms" 1 that name a boundary: the stack, the trays, jobs as they are read,
 * runs, what is right. Each test has its sentence ahead of it.
 */
public final class TermsTest {
    private static final String DIGITS = "0123456789";
    private static final String BEGINS_F = "potkvn(!";
    private static final String LETTERS = "potkvn";

    private TermsTest() { }

    private static void due(String call, long got, long want) {
        Due.is(call, got, want);
    }

    // ---- the stack

    /** "SHEETS 0 .. 11, from the top on (12 at most; none at first)." */
    private static void sheets() {
        BothSidesSheet x = new BothSidesSheet();
        due("none at first", x.count(0), 0);
        due("no sheet 0 at first", x.sheet(0, 0), Bench.NONE);
        for (int i = 1; i <= 12; i++) {
            due("a sheet more", x.load(1), i);
            due("the last there is", x.sheet(i - 1, 0), 0);
            due("the first that there is not", x.sheet(i, 0), Bench.NONE);
        }
        due("12 at most", x.load(1), Bench.FULL);
        due("12 still", x.count(0), 12);
        x.tray(Bench.TRAY, 0);
        Bench.run(x, 0, "till 12");
        for (int i = 0; i < 12; i++) {
            due("from the top on, the latest first: sheet " + i, x.sheet(i, 0), 12 - i);
        }
    }

    /** "on each a PAGE (1 .. 60; 0: it is blank; 99: it is spoiled), the right way up, or HEAD DOWN" */
    private static void sides() {
        BothSidesSheet x = Bench.with(3, Bench.TOLD, 9);
        Bench.lies("blank ones, the right way up", x, "0/0 0/0 0/0");
        due("blank sides", x.told(2), 6);
        Bench.run(x, 0, "from 1;till 1");
        Bench.lies("the least page", x, "0/0 0/0 1/0");
        x = Bench.with(2, Bench.TOLD, 9);
        x.row(0, 1, 9);
        Bench.run(x, 0, "from 23");
        Bench.lies("the greatest page that a run comes to, 24 and 9", x, "33/0 23/0");
        x.run(0, 0);
        Bench.lies("spoiled", x, "99/0 99/0");
        due("two sides are spoiled", x.told(1), 2);
        due("two are blank", x.told(2), 2);
        due("a spoiled side is found as no page", x.find(60), Bench.NOWHERE);
    }

    /** "To turn a SHEET OVER: its sides change places." As they lie, head down or not. */
    private static void over() {
        BothSidesSheet x = Bench.with(1, Bench.FLIPPING, 0);
        Bench.run(x, 0, "till 1;turn p=1");
        Bench.lies("head down still, below", x, "0/1v");
        x.turn(1);
        Bench.lies("head down still, above", x, "1v/0");
    }

    /** "To turn it ABOUT: each of its sides is HEAD DOWN, if it was not, else not (blank ones, too)." */
    private static void about() {
        BothSidesSheet x = Bench.with(2, Bench.TRAY, 0);
        Bench.run(x, 0, "till 1");
        x.turn(2);
        Bench.lies("about", x, "0v/0v 1v/0v");
        x.turn(2);
        Bench.lies("about twice", x, "0/0 1/0");
        x.turn(1);
        Bench.run(x, 0, "from 7;till 7");
        x.turn(1);
        x.run(0, 1);
        x.turn(2);
        Bench.lies("spoiled ones, too", x, "0v/0v 99v/7v");
        x.turn(2);
        Bench.lies("and back", x, "0/0 99/7");
    }

    // ---- the trays

    /** "TRAYS 0 .. 4, as they come, are of KINDS ..; with a number v (0 .. 9), RAN (.. 0 at first)." */
    private static void trays() {
        BothSidesSheet x = new BothSidesSheet();
        due("no tray at first", x.of(0, 0), Bench.NONE);
        int[] kinds = {6, 0, 5, 1, 4};
        int[] vs = {0, 9, 1, 8, 5};
        for (int i = 0; i < 5; i++) {
            due("as they come", x.tray(kinds[i], vs[i]), i);
            due("the first that there is not", x.of(i + 1, 0), Bench.NONE);
        }
        due("five at most", x.tray(0, 0), Bench.FULL);
        for (int i = 0; i < 5; i++) {
            due("its kind", x.of(i, 0), kinds[i]);
            due("its v", x.of(i, 1), vs[i]);
            due("RAN is 0 at first", x.of(i, 2), 0);
        }
    }

    /** "0 TRAY; 1 FLIPPING, 2 TURNING, 3 DAMP under TRAY; 4 REVERSING under FLIPPING; 5 CURLED under
     * TURNING; 6 TOLD under DAMP" */
    private static void kinds() {
        int[] above = {-1, 0, 0, 0, 1, 2, 3};
        for (int kind = 0; kind <= 6; kind++) {
            BothSidesSheet x = Bench.with(0, kind, 0);
            for (int k = 0; k <= 6; k++) {
                boolean under = k == kind || k == above[kind] || k == 0;
                due("a " + kind + " taken for a " + k, x.taken(0, k), under ? kind : Bench.CAST);
            }
        }
    }

    /** "RAN (how many runs it did, 0 .. 9999 ..)": "RAN is 1 more" behind a run, of that tray alone. */
    private static void ran() {
        BothSidesSheet x = Bench.with(0, Bench.TRAY, 0, Bench.DAMP, 0);
        Bench.job(x, Bench.IDLE);
        for (int i = 1; i <= 3; i++) {
            due("no page is printed", x.run(1, 0), 0);
            due("but it is a run", x.of(1, 2), i);
        }
        due("the other did none", x.of(0, 2), 0);
        x.after(1, 0, 0);
        x.uses(1, 0);
        due("what is asked is no run", x.of(1, 2), 3);
    }

    // ---- jobs, as they are read

    /** Of all signs, just these may come next: the fault stands here by each other one. */
    private static void next(String ahead, String may) {
        for (int sign = 0; sign <= 127; sign++) {
            BothSidesSheet x = new BothSidesSheet();
            Bench.feed(x, ahead);
            x.feed(sign);
            int got = x.job();
            String name = "'" + ahead + "' and sign " + sign + " answered " + got;
            if (may.indexOf((char) sign) < 0) {
                Due.holds(name + ", due is a fault there", got == -10 - ahead.length());
            } else {
                Due.holds(name + ", due is none there",
                        got == 0 || got == -10 - ahead.length() - 1);
            }
        }
    }

    private static void fault(String text, int place) {
        due("job() of '" + text + "'", Bench.job(new BothSidesSheet(), text), -10 - place);
    }

    private static void reads(String text) {
        due("job() of '" + text + "'", Bench.job(new BothSidesSheet(), text), 0);
    }

    /** "from n; till n; skip E; turn E (one blank ahead of each part behind the word ..)" */
    private static void words() {
        next("", "fts");
        next("f", "r");
        next("fr", "o");
        next("fro", "m");
        next("from", " ");
        next("from ", DIGITS);
        next("t", "iu");
        next("ti", "l");
        next("til", "l");
        next("till", " ");
        next("till ", DIGITS);
        next("s", "k");
        next("sk", "i");
        next("ski", "p");
        next("skip", " ");
        next("skip ", BEGINS_F);
        next("tu", "r");
        next("tur", "n");
        next("turn", " ");
        next("turn ", BEGINS_F);
    }

    /** "(.. n 1 or 2 digits)" */
    private static void digits() {
        next("from 0", DIGITS + ";");
        next("from 00", ";");
        next("till 9", DIGITS + ";");
        next("till 99", ";");
        reads("from 7");
        reads("from 07");
        reads("from 77");
        fault("from ", 5);
        fault("from 777", 7);
    }

    /** "E: T or T|E. T: F or F&T. F: !F, (E), or a TEST" */
    private static void expressions() {
        next("skip p", "<=>");
        next("turn n", "<=>");
        next("skip p<", DIGITS);
        next("skip p=", DIGITS);
        next("skip p>", DIGITS);
        next("skip p<1", DIGITS + "|&;");
        next("skip p<12", "|&;");
        next("skip p<12|", BEGINS_F);
        next("skip p<12&", BEGINS_F);
        next("skip p<12|o=1&", BEGINS_F);
        next("skip !", BEGINS_F);
        next("skip !p=1", DIGITS + "|&;");
        next("skip (", BEGINS_F);
        next("skip (p=1", DIGITS + "|&)");
        next("skip (p=12", "|&)");
        next("skip (p=1&", BEGINS_F);
        next("skip (p=1)", "|&;");
        next("skip ((p=1)", "|&)");
        next("skip !(p=1)", "|&;");
    }

    /** "A ( or ! within 4 others is none." Those that are closed, or that stand beside, don't count. */
    private static void nesting() {
        next("skip (((", BEGINS_F);
        next("skip ((((", LETTERS);
        next("skip !!!", BEGINS_F);
        next("skip !!!!", LETTERS);
        next("skip !(!", BEGINS_F);
        next("skip !(!(", LETTERS);
        next("skip (!(!", LETTERS);
        next("skip ((((p=12|", LETTERS);
        next("skip ((((p=12&", LETTERS);
        next("skip ((((p=12)", "|&)");
        next("skip ((((p=12)|", BEGINS_F);
        next("skip (((!p=12|", BEGINS_F);
        next("skip (((!p=12&", BEGINS_F);
        next("skip !!!!p=12|", BEGINS_F);
        next("skip ((((p=12))))&", BEGINS_F);
        next("skip ((((p=12))))", "|&;");
        next("skip ((((p=12))))&((((", LETTERS);
        reads("skip ((((p=1))))");
        reads("skip !!!!p=1");
        reads("skip !(!(p=1))");
        reads("skip (p=1)&(p=1)&(p=1)&(p=1)&(p=1)&!p=1&!p=1");
        fault("skip (((((p=1)))))", 9);
        fault("skip !!!!!p=1", 9);
        fault("skip !!!!(p=1)", 9);
        fault("skip ((((!p=1))))", 9);
    }

    /** "CLAUSES, 1 to 10, with ; between" */
    private static void clauses() {
        fault("", 0);
        reads("till 9");
        next("till 9;", "fts");
        next("skip p=1;", "fts");
        reads(Bench.NINE_CLAUSES + "till 9");
        next(Bench.NINE_CLAUSES, "fts");
        next(Bench.NINE_CLAUSES + "till 9", DIGITS);
        next(Bench.NINE_CLAUSES + "till 99", "");
        next(Bench.NINE_CLAUSES + "skip p=99", "|&");
        fault(Bench.NINE_CLAUSES + "till 9;till 9", Bench.NINE_CLAUSES.length() + 6);
    }

    /** "The FAULT: the place of the first byte with which none begins so (the end .. if too early)." */
    private static void faults() {
        String text = "from 12;skip !(p<7&o=1)|t>3;turn k=6";
        Set<Integer> jobs = Set.of(6, 7, 23, 27, 36);
        for (int i = 0; i <= text.length(); i++) {
            String ahead = text.substring(0, i);
            if (jobs.contains(i)) {
                reads(ahead);
            } else {
                fault(ahead, i);
            }
            fault(ahead + "~" + text.substring(i), i);
        }
        fault("from 12;skip q=1;turn z=1", 13);
        BothSidesSheet x = new BothSidesSheet();
        due("a fault", Bench.job(x, "till 1x"), -16);
        due("THE TEXT is empty then", x.count(6), 0);
        due("no job came", x.count(2), 0);
        due("the next begins anew", Bench.job(x, "till 1"), 0);
    }

    /** THE TEXT "is empty then": what a longer one had before is none of the next. */
    private static void shorter() {
        String text = "turn !p=12|(o=1&t<10);till 24";
        Set<Integer> jobs = Set.of(9, 10, 21, 28, 29);
        for (int i = 0; i < text.length(); i++) {
            BothSidesSheet x = new BothSidesSheet();
            due("the whole", Bench.job(x, text), 0);
            due("the first " + i + " bytes, behind the whole", Bench.job(x, text.substring(0, i)),
                    jobs.contains(i) ? 1 : -10 - i);
            due("the whole again", Bench.job(x, text), jobs.contains(i) ? 2 : 1);
        }
        BothSidesSheet x = Bench.with(3, Bench.TRAY, 0);
        Bench.job(x, "skip p=1;skip p=2;turn p>0;turn p=3;from 2;till 3");
        Bench.run(x, 0, "skip p=2");
        Bench.lies("its clauses, too", x, "4/0 3/0 1/0");
        due("its FROM, too", x.jobs(1, 0), 1);
        due("its TILL, too", x.jobs(1, 1), 24);
        Bench.run(x, 0, "skip p=1;turn p=2;x");
        x.empty();
        x.load(2);
        Bench.run(x, 0, "till 9");
        Bench.lies("nor those of a fault", x, "2/0 1/0");
    }

    /** "THE TEXT (bytes, 100 at most)" */
    private static void text() {
        String ahead = "skip p=30" + "|p=30".repeat(16) + "|p=9";
        String hundred = ahead + ";till 7";
        BothSidesSheet x = new BothSidesSheet();
        due("none at first", x.count(6), 0);
        due("99 bytes", Bench.feed(x, hundred.substring(0, 99)), 99);
        due("the last there is room for", x.feed('7'), 100);
        due("a 101st", x.feed('9'), Bench.FULL);
        due("100 still", x.count(6), 100);
        due("all of them are read", x.job(), 0);
        due("the last byte, too", x.jobs(0, 1), 7);
        due("THE TEXT is empty then", x.count(6), 0);
        due("and has room again", x.feed('t'), 1);
        fault(hundred.substring(0, 99), 99);
        fault(hundred.substring(0, 99) + "x", 99);
        fault(ahead + "|p=9&o=", 100);
        fault(ahead + ";turn p", 100);
    }

    /** "JOBS are numbered from 0 on, 6 at most." */
    private static void jobNumbers() {
        BothSidesSheet x = new BothSidesSheet();
        due("none at first", x.jobs(0, 0), Bench.NONE);
        for (int i = 0; i < 6; i++) {
            due("the next", Bench.job(x, "from " + (i + 2)), i);
            due("the first that there is not", x.jobs(i + 1, 0), Bench.NONE);
        }
        due("a seventh", Bench.job(x, "from 9"), Bench.FULL);
        for (int i = 0; i < 6; i++) {
            due("each is as it came", x.jobs(i, 0), i + 2);
        }
    }

    private static void bounds(String text, int from, int till) {
        BothSidesSheet x = new BothSidesSheet();
        Bench.job(x, text);
        due("FROM of " + text, x.jobs(0, 0), from);
        due("TILL of " + text, x.jobs(0, 1), till);
    }

    /** "FROM (1 without; 1 if less), TILL (24 without; 24 if more): the last one's n." */
    private static void fromAndTill() {
        bounds("skip p=9", 1, 24);
        bounds("from 0", 1, 24);
        bounds("from 1", 1, 24);
        bounds("from 2", 2, 24);
        bounds("from 99", 99, 24);
        bounds("till 0", 1, 0);
        bounds("till 1", 1, 1);
        bounds("till 23", 1, 23);
        bounds("till 24", 1, 24);
        bounds("till 25", 1, 24);
        bounds("till 99", 1, 24);
        bounds("from 5;from 3", 3, 24);
        bounds("from 3;from 5", 5, 24);
        bounds("from 3;from 0", 1, 24);
        bounds("till 9;till 12", 1, 12);
        bounds("till 12;till 9", 1, 9);
        bounds("till 9;till 30", 1, 24);
        bounds("till 9;from 3;skip p=1;till 7;from 4", 4, 7);
    }

    /** What a test says of pages 1 to 12 of a tray of this kind and v: those that are turned, as 1. */
    private static void turned(String test, int kind, int v, String want) {
        BothSidesSheet x = Bench.with(12, kind, v);
        Bench.run(x, 0, "till 12;turn " + test);
        StringBuilder got = new StringBuilder();
        for (int page = 1; page <= 12; page++) {
            int at = x.find(page);
            got.append(at < 0 ? '-' : (char) ('0' + x.sheet(at / 10, 2)));
        }
        Due.holds(test + " holds for " + got + ", due is " + want, got.toString().equals(want));
    }

    /** "a letter, < or = or >, a number (1 or 2 digits): of a PAGE and a TRAY p .. n" */
    private static void tests() {
        turned("p<1", 0, 0, "000000000000");
        turned("p<2", 0, 0, "100000000000");
        turned("p=1", 0, 0, "100000000000");
        turned("p=12", 0, 0, "000000000001");
        turned("p>11", 0, 0, "000000000001");
        turned("p>12", 0, 0, "000000000000");
        turned("p>00", 0, 0, "111111111111");
        turned("p<99", 0, 0, "111111111111");
        turned("p=05", 0, 0, "000010000000");
        turned("o=0", 0, 0, "010101010101");
        turned("o>0", 0, 0, "101010101010");
        turned("o=2", 0, 0, "000000000000");
        turned("o<2", 0, 0, "111111111111");
        turned("t=0", 0, 0, "000000000100");
        turned("t=9", 0, 0, "000000001000");
        turned("t=1", 0, 0, "100000000010");
        turned("t=10", 0, 0, "000000000000");
        turned("k=0", 0, 9, "111111111111");
        turned("k<1", 0, 9, "111111111111");
        turned("k>0", 0, 9, "000000000000");
        turned("k=3", 3, 9, "11111111111-");
        turned("k=6", 6, 9, "11111111111-");
        turned("k>6", 6, 9, "00000000000-");
        turned("v=0", 0, 0, "111111111111");
        turned("v=9", 0, 9, "111111111111");
        turned("v>9", 0, 9, "000000000000");
        turned("v<9", 0, 9, "000000000000");
        turned("n=0", 0, 0, "100000000000");
        turned("n=11", 0, 0, "000000000001");
        turned("n<1", 0, 0, "100000000000");
        turned("n>10", 0, 0, "000000000001");
        turned("n=12", 0, 0, "000000000000");
    }

    /** "E: T or T|E. T: F or F&T. F: !F, (E)": & binds more than |, ! more than both. */
    private static void binding() {
        turned("p=1|p=2&p=3", 0, 0, "100000000000");
        turned("p=2&p=3|p=1", 0, 0, "100000000000");
        turned("(p=1|p=2)&p=2", 0, 0, "010000000000");
        turned("p=2&(p=1|p=2)", 0, 0, "010000000000");
        turned("!p=1&p<3", 0, 0, "010000000000");
        turned("!(p=1&p<3)", 0, 0, "011111111111");
        turned("!p>1|p>11", 0, 0, "100000000001");
        turned("!!p=1", 0, 0, "100000000000");
        turned("!!!p=1", 0, 0, "011111111111");
        turned("!!!!p=1", 0, 0, "100000000000");
        turned("((((p=1))))|((((p=2))))", 0, 0, "110000000000");
        turned("!(p>1&!(p>3&p<6))", 0, 0, "100110000000");
        turned("p=1|p=3|p=5&o=1&t=5|p=8&o=1", 0, 0, "101010000000");
    }

    // ---- runs

    private static void ranStack(String name, String before, int sheets, int kind, int v, String text,
            String want) {
        BothSidesSheet x = Bench.with(sheets, kind, v);
        Bench.job(x, before);
        x.run(0, 0);
        Bench.run(x, 0, text);
        Bench.lies(name, x, want);
    }

    /** "the JOB's PAGE is FROM at first, and goes on by 1 as long as E of any skip holds for it" */
    private static void pages() {
        ranStack("FROM at first", Bench.IDLE, 2, 0, 0, "from 7", "8/0 7/0");
        ranStack("1 without", Bench.IDLE, 2, 0, 0, "till 24", "2/0 1/0");
        ranStack("none skipped", Bench.IDLE, 2, 0, 0, "skip p=9", "2/0 1/0");
        ranStack("FROM is skipped", Bench.IDLE, 2, 0, 0, "from 3;skip p<5", "6/0 5/0");
        ranStack("one, then more", Bench.IDLE, 4, 0, 0, "skip p=2;skip p>3&p<9", "10/0 9/0 3/0 1/0");
        ranStack("of any skip", Bench.IDLE, 2, 0, 0, "skip p=1;skip p=2;skip p=3", "5/0 4/0");
        ranStack("by n", Bench.IDLE, 3, 0, 0, "skip n=1&p<9", "10/0 9/0 1/0");
        ranStack("a page of a skip that held once is gone", Bench.IDLE, 3, 0, 0, "skip n=0&p<4",
                "6/0 5/0 4/0");
    }

    /** "the RUN ends, if it is above TILL then" */
    private static void tillEnds() {
        ranStack("TILL is printed yet", Bench.IDLE, 3, 0, 0, "from 5;till 6", "0/0 6/0 5/0");
        ranStack("FROM is TILL", Bench.IDLE, 2, 0, 0, "from 6;till 6", "0/0 6/0");
        ranStack("FROM is above TILL", Bench.IDLE, 2, 0, 0, "from 7;till 6", "0/0 0/0");
        ranStack("24 at most", Bench.IDLE, 3, 0, 0, "from 23;till 99", "0/0 24/0 23/0");
        ranStack("TILL 0", Bench.IDLE, 1, 0, 0, "till 0", "0/0");
        ranStack("FROM 99", Bench.IDLE, 1, 0, 0, "from 99", "0/0");
        ranStack("TILL is skipped", Bench.IDLE, 2, 0, 0, "from 23;skip p=24", "0/0 23/0");
        ranStack("all are skipped", Bench.IDLE, 2, 0, 0, "skip p>0", "0/0 0/0");
        ranStack("skipped by n", Bench.IDLE, 3, 0, 0, "skip n>1", "0/0 2/0 1/0");
        ranStack("none comes for one to go through", Bench.IDLE, 3, Bench.DAMP, 0, "till 1", "0/0 0/0 1/0");
    }

    /** "if no SHEET is left in THE STACK" */
    private static void stackEnds() {
        BothSidesSheet x = Bench.with(0, Bench.TRAY, 0);
        Bench.job(x, "till 24");
        due("no sheets", x.run(0, 0), 0);
        due("no sheets still", x.count(0), 0);
        x.load(1);
        due("one sheet", x.run(0, 0), 1);
        x.empty();
        x.load(12);
        due("twelve sheets", x.run(0, 0), 12);
        due("the last of them", x.sheet(0, 0), 12);
    }

    /** "or (CURLED) if n is above v" */
    private static void curledEnds() {
        for (int v = 0; v <= 9; v++) {
            BothSidesSheet x = Bench.with(12, Bench.CURLED, v, Bench.TURNING, v);
            Bench.job(x, "till 24");
            due("curled, v " + v, x.after(0, 0, 1), v + 1);
            due("turning, v " + v, x.after(1, 0, 1), 12);
        }
        due("fewer sheets than v", curled(2, 9), 2);
        due("as many as v", curled(3, 3), 3);
        due("v and 1", curled(4, 3), 4);
        due("v and 2", curled(5, 3), 4);
    }

    private static int curled(int sheets, int v) {
        return Bench.run(Bench.with(sheets, Bench.CURLED, v), 0, "till 24");
    }

    /** "Else the TRAY takes one (REVERSING: the lowest that is left; all others: the top one)." */
    private static void taken() {
        for (int kind = 0; kind <= 6; kind++) {
            BothSidesSheet x = Bench.with(3, Bench.TRAY, 0, kind, 9);
            Bench.run(x, 0, "from 2");
            x.turn(1);
            Bench.run(x, 1, "from 9;till 9");
            int sheet = x.find(9) / 10;
            int other = x.sheet(sheet, 0) == 9 ? x.sheet(sheet, 1) : x.sheet(sheet, 0);
            due("what kind " + kind + " took", other, kind == Bench.REVERSING ? 4 : 2);
        }
        BothSidesSheet x = Bench.with(4, Bench.TRAY, 0, Bench.REVERSING, 0);
        Bench.run(x, 0, "from 10");
        Bench.lies("four", x, "13/0 12/0 11/0 10/0");
        x.turn(1);
        Bench.run(x, 1, "from 1;till 2");
        Bench.lies("the lowest, then the lowest that is left", x, "0/10 0/11 12/2 13/1");
    }

    /** "DAMP, TOLD: if n and 1 are a multiple of (v + 2), it goes through as it is" */
    private static void goesThrough() {
        for (int kind = 0; kind <= 6; kind++) {
            for (int v = 0; v <= 9; v++) {
                BothSidesSheet x = Bench.with(12, kind, kind == Bench.CURLED ? 9 : v);
                Bench.job(x, "till 24");
                int through = kind == Bench.DAMP || kind == Bench.TOLD ? 12 / (v + 2) : 0;
                int goes = kind == Bench.CURLED ? 10 : 12;
                due("pages of kind " + kind + ", v " + v, x.after(0, 0, 1), goes - through);
                for (int n = 1; through > 0 && n <= 12; n++) {
                    int page = n % (v + 2) == 0 ? 0 : n - n / (v + 2);
                    due("sheet of n " + n, x.after(0, 0, 10 + 12 - n), page);
                }
            }
        }
        BothSidesSheet x = Bench.with(2, Bench.DAMP, 0, Bench.TRAY, 0);
        Bench.run(x, 1, "from 5;turn p=6");
        Bench.lies("two", x, "6v/0 5/0");
        Bench.run(x, 0, "from 9");
        Bench.lies("printed on, or through as it is", x, "5/0 99/0");
        x.turn(2);
        Bench.run(x, 0, "from 9");
        Bench.lies("head down as it was", x, "99v/0v 99/0v");
    }

    /** "and the PAGE stays": skips are looked at again for it, with the next n. */
    private static void pageStays() {
        ranStack("stays", Bench.IDLE, 5, Bench.DAMP, 0, "from 4", "6/0 0/0 5/0 0/0 4/0");
        ranStack("skipped by the next n", Bench.IDLE, 4, Bench.DAMP, 0, "skip n=2&p<7", "0/0 7/0 0/0 1/0");
        ranStack("skipped ahead of what goes through", Bench.IDLE, 4, Bench.DAMP, 0, "skip n=1&p<5",
                "0/0 5/0 0/0 1/0");
    }

    /** "(TOLD: that and its ROW, four numbers 0 .. 9, 0 at first, at n modulo 4; 60 at most)" */
    private static void rows() {
        BothSidesSheet x = Bench.with(12, Bench.TOLD, 9);
        Bench.job(x, "till 24");
        for (int n = 0; n < 10; n++) {
            due("0 at first, n " + n, x.after(0, 0, 10 + 11 - n), n + 1);
        }
        int[] row = {9, 0, 5, 1};
        for (int part = 0; part < 4; part++) {
            due("0 at first", x.row(0, part, row[part]), 0);
        }
        for (int n = 0; n < 10; n++) {
            due("by its row, n " + n, x.after(0, 0, 10 + 11 - n), n + 1 + row[n % 4]);
        }
        due("the eleventh goes through", x.after(0, 0, 11), 0);
        due("n is of sheets: n 11 is part 3", x.after(0, 0, 10), 11 + 1);
        BothSidesSheet most = Bench.with(1, Bench.TOLD, 0);
        most.row(0, 0, 9);
        Bench.run(most, 0, "from 24");
        due("below 60 always", most.sheet(0, 0), 33);
    }

    /** "HEAD DOWN, if E of any turn holds for the JOB's PAGE" */
    private static void headDown() {
        ranStack("none without a turn", Bench.IDLE, 2, 0, 0, "till 24", "2/0 1/0");
        ranStack("of any turn", Bench.IDLE, 3, 0, 0, "turn p=1;turn p=3", "3v/0 2/0 1v/0");
        BothSidesSheet x = Bench.with(2, Bench.TOLD, 9);
        x.row(0, 0, 4);
        Bench.run(x, 0, "turn p=5;turn p=2");
        Bench.lies("not for what is printed: 5 is printed for page 1", x, "2v/0 5/0");
        BothSidesSheet down = Bench.with(2, Bench.TRAY, 0);
        down.turn(2);
        Bench.run(down, 0, "turn p=2");
        Bench.lies("as the job tells, not as it lay", down, "2v/0v 1/0v");
    }

    /** "if there is something on that side, it is spoiled then, the right way up; .. on by 1" */
    private static void spoils() {
        ranStack("spoiled", "from 4;till 4", 2, 0, 0, "from 8", "99/0 8/0");
        ranStack("spoiled, the right way up, though turned", "from 4", 1, 0, 0, "turn p>0", "99/0");
        ranStack("spoiled, though it was head down", "turn p>0", 1, 0, 0, "till 9", "99/0");
        ranStack("the page goes on", "from 4", 3, 0, 0, "from 8;till 10;turn p=10",
                "99/0 99/0 99/0");
        BothSidesSheet x = Bench.with(2, Bench.FLIPPING, 0);
        Bench.run(x, 0, "from 3;till 3");
        Bench.run(x, 0, "from 7");
        Bench.lies("what lies below spoils nothing", x, "3/8 0/7");
        due("spoiled ones are counted as printed", Bench.run(x, 0, "from 1"), 2);
        Bench.lies("one of them is spoiled", x, "7/2 8/99");
        x = Bench.with(1, Bench.TRAY, 0);
        Bench.run(x, 0, "till 1");
        x.run(0, 0);
        x.turn(2);
        Bench.lies("a spoiled side that lies head down", x, "99v/0v");
        due("is printed on", x.run(0, 0), 1);
        Bench.lies("and spoiled, the right way up", x, "99/0v");
    }

    /** "Then the SHEET is put on top of those that are out: as it is; FLIPPING, REVERSING: turned
     * OVER; TURNING, CURLED: turned OVER, then ABOUT." */
    private static void putOut() {
        String text = "till 2;turn p=2";
        ranStack("as it is", Bench.IDLE, 2, Bench.TRAY, 0, text, "2v/0 1/0");
        ranStack("over", Bench.IDLE, 2, Bench.FLIPPING, 0, text, "0/2v 0/1");
        ranStack("over, about", Bench.IDLE, 2, Bench.TURNING, 0, text, "0v/2 0v/1v");
        ranStack("as it is", Bench.IDLE, 2, Bench.DAMP, 9, text, "2v/0 1/0");
        ranStack("over", Bench.IDLE, 2, Bench.REVERSING, 0, text, "0/2v 0/1");
        ranStack("over, about", Bench.IDLE, 2, Bench.CURLED, 9, text, "0v/2 0v/1v");
        ranStack("as it is", Bench.IDLE, 2, Bench.TOLD, 9, text, "2v/0 1/0");
        ranStack("as it is, what goes through", Bench.IDLE, 2, Bench.TOLD, 0, "from 8", "0/0 8/0");
    }

    /** "When the RUN ends, those that are left come, as they lie, on top of those that are out" */
    private static void left() {
        String four = "from 4;till 7;turn p=6";
        ranStack("left as they lie", four, 4, 0, 0, "from 1;till 1", "6v/0 5/0 4/0 99/0");
        ranStack("none is left", four, 4, 0, 0, "from 1", "99/0 99/0 99/0 99/0");
        ranStack("all are left", four, 4, 0, 0, Bench.IDLE, "7/0 6v/0 5/0 4/0");
        BothSidesSheet x = Bench.with(4, Bench.TRAY, 0, Bench.REVERSING, 0, Bench.CURLED, 0);
        Bench.run(x, 0, four);
        Bench.run(x, 1, "from 1;till 1");
        Bench.lies("of a reversing one the upper ones", x, "7/0 6v/0 5/0 0/99");
        x.run(2, 1);
        Bench.lies("of a curled one the lower ones", x, "6v/0 5/0 0/99 0v/99v");
    }

    // ---- what is right, the stack turned over

    /** "A SHEET is RIGHT, if its UPPER side has the PAGE that is twice its number, and 1, its LOWER
     * side the next one, and neither is HEAD DOWN." */
    private static void rightness() {
        for (int sheets = 1; sheets <= 12; sheets++) {
            BothSidesSheet x = Bench.right(sheets);
            due("all of " + sheets, x.told(0), sheets);
            due("the top one", x.sheet(0, 4), 1);
            due("the lowest", x.sheet(sheets - 1, 4), 1);
            due("its upper side", x.sheet(sheets - 1, 0), 2 * sheets - 1);
            due("its lower side", x.sheet(sheets - 1, 1), 2 * sheets);
        }
        BothSidesSheet x = Bench.right(3);
        due("one more above: none is in its place", shifted(), 0);
        due("about: both are head down", x.turn(2), 0);
        due("and not", x.turn(2), 3);
        due("over: the sides are changed", x.turn(1), 0);
        BothSidesSheet upper = Bench.with(1, Bench.FLIPPING, 0, Bench.TRAY, 0);
        Bench.run(upper, 0, "from 2");
        due("the upper one is head down", upperOne(upper, "till 1;turn p=1"), 0);
        due("the upper one is another", upperOne(upper, "from 3"), 0);
        due("both as told", upperOne(upper, "till 1"), 1);
        BothSidesSheet lower = Bench.with(1, Bench.FLIPPING, 0, Bench.TRAY, 0);
        Bench.run(lower, 0, "from 2;turn p=2");
        due("the lower one is head down", upperOne(lower, "till 1"), 0);
        BothSidesSheet other = Bench.with(1, Bench.FLIPPING, 0, Bench.TRAY, 0);
        Bench.run(other, 0, "from 4");
        due("the lower one is another", upperOne(other, "till 1"), 0);
        due("blank ones are not right", Bench.with(12).told(0), 0);
        due("none of no sheets", new BothSidesSheet().told(0), 0);
    }

    private static int shifted() {
        BothSidesSheet x = Bench.right(3);
        x.load(1);
        return x.told(0);
    }

    /** How many are right, if tray 1 would print the upper sides. */
    private static int upperOne(BothSidesSheet x, String text) {
        return x.after(1, Bench.job(x, text), 0);
    }

    /** "THE STACK is turned over: the lowest SHEET becomes the top one, and so on, and each is
     * turned OVER." */
    private static void stackOver() {
        String[] want = {"", "0/1", "0/1 0/2", "0/1 0/2 0/3", "0/1 0/2 0/3 0/4"};
        for (int sheets = 0; sheets <= 4; sheets++) {
            BothSidesSheet x = Bench.with(sheets, Bench.TRAY, 0);
            Bench.run(x, 0, "till 24");
            String was = Bench.stack(x);
            x.turn(1);
            Bench.lies("over, of " + sheets, x, want[sheets]);
            x.turn(1);
            Bench.lies("over twice, of " + sheets, x, was);
        }
        BothSidesSheet x = Bench.with(12, Bench.TRAY, 0);
        Bench.run(x, 0, "till 24");
        x.turn(1);
        for (int i = 0; i < 12; i++) {
            due("twelve turned over: sheet " + i, x.sheet(i, 1), i + 1);
        }
    }

    public static void main(String[] args) {
        sheets();
        sides();
        over();
        about();
        trays();
        kinds();
        ran();
        words();
        digits();
        expressions();
        nesting();
        clauses();
        faults();
        text();
        shorter();
        jobNumbers();
        fromAndTill();
        tests();
        binding();
        pages();
        tillEnds();
        stackEnds();
        curledEnds();
        taken();
        goesThrough();
        pageStays();
        rows();
        headDown();
        spoils();
        putOut();
        left();
        rightness();
        stackOver();
        Due.end("TermsTest");
    }
}
