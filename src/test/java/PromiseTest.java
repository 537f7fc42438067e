/** Each promise by its number: ordinary calls, the edges that the document names, wrong numbers. */
public final class PromiseTest {
    private static final int NONE = -1, BAD = -2, STATE = -3, FULL = -4;
    private static final int NOWHERE = -5, NOTHING = -11, CAST = -12, PLACE = -13, SIZE = -14;
    private static final long NO = Long.MIN_VALUE;
    private static final int MIN = Integer.MIN_VALUE, MAX = Integer.MAX_VALUE;

    private static final String ODD = "skip o=0", EVEN = "skip o=1";

    private PromiseTest() { }

    private static void due(String call, long got, long want) {
        Due.is(call, got, want);
    }

    private static int feedAll(BothSidesSheet x, String text) {
        int n = 0;
        for (int i = 0; i < text.length(); i++) {
            n = x.feed(text.charAt(i));
        }
        return n;
    }

    private static int job(BothSidesSheet x, String text) {
        feedAll(x, text);
        return x.job();
    }

    /** A new one with so many sheets, one tray, one job. */
    private static BothSidesSheet with(int sheets, int kind, int v, String text) {
        BothSidesSheet x = new BothSidesSheet();
        if (sheets > 0) {
            x.load(sheets);
        }
        x.tray(kind, v);
        job(x, text);
        return x;
    }

    /** Trays of all kinds but the last two, so many blank sheets, jobs of odd and of even pages. */
    private static BothSidesSheet five(int sheets) {
        BothSidesSheet x = with(sheets, 0, 0, ODD);
        x.tray(1, 1);
        x.tray(2, 2);
        x.tray(3, 3);
        x.tray(4, 4);
        job(x, EVEN);
        return x;
    }

    private static void sides(String name, BothSidesSheet x, int side, int... pages) {
        for (int i = 0; i < pages.length; i++) {
            due(name + " side " + side + " of sheet " + i, x.sheet(i, side), pages[i]);
        }
    }

    /** All that calls can tell of one object, in one text: so few that there is room for it twice. */
    private static String all(BothSidesSheet x) {
        StringBuilder s = new StringBuilder();
        for (int i = 0; i < 8; i++) {
            s.append(x.count(i)).append(' ');
        }
        for (int i = 0; i < 12; i++) {
            for (int what = 0; what < 5; what++) {
                s.append(x.sheet(i, what)).append(' ');
            }
        }
        for (int i = 0; i < 6; i++) {
            s.append(x.of(i, 0)).append(x.of(i, 1)).append(x.of(i, 2)).append(' ');
            s.append(x.jobs(i, 0)).append(' ').append(x.jobs(i, 1)).append(' ');
            s.append(x.which(i)).append(' ');
            for (int k : new int[] {0, 1, 2, 3, 8, 9, 59, 60}) {
                s.append(x.read(i, k)).append(' ');
            }
        }
        for (int i = 0; i < 21; i++) {
            s.append(x.trace(i)).append(' ');
        }
        return s.append(x.looked()).append(x.done(0)).append(x.done(1)).toString();
    }

    private static void constants() {
        due("NONE", BothSidesSheet.NONE, -1);
        due("BAD", BothSidesSheet.BAD, -2);
        due("STATE", BothSidesSheet.STATE, -3);
        due("FULL", BothSidesSheet.FULL, -4);
        due("NO", BothSidesSheet.NO, Long.MIN_VALUE);
    }

    private static void promise1() {
        BothSidesSheet x = new BothSidesSheet();
        for (int i = 0; i < 8; i++) {
            due("count of a new one", x.count(i), 0);
        }
        due("undo of a new one", x.undo(), STATE);
        due("trace of a new one", x.trace(0), NONE);
        due("told 3 of a new one", x.told(3), (1 << 24) - 1);
        for (int i = 0; i < 6; i++) {
            due("read of a new one", x.read(i, 0), NO);
            due("item of a new one", x.item(i, 0, 1), NOTHING);
        }
    }

    private static void promise2() {
        BothSidesSheet x = new BothSidesSheet();
        due("tray(-1, 0)", x.tray(-1, 0), NONE);
        due("tray(7, 10): the kind is named first", x.tray(7, 10), NONE);
        due("tray(MIN, 0)", x.tray(MIN, 0), NONE);
        due("tray(MAX, 0)", x.tray(MAX, 0), NONE);
        due("tray(0, -1)", x.tray(0, -1), BAD);
        due("tray(6, 10)", x.tray(6, 10), BAD);
        due("count(1)", x.count(1), 0);
        due("tray(6, 9)", x.tray(6, 9), 0);
        due("tray(5, 0)", x.tray(5, 0), 1);
        due("tray(0, 0)", x.tray(0, 0), 2);
        due("tray(1, 1)", x.tray(1, 1), 3);
        due("tray(2, 2)", x.tray(2, 2), 4);
        due("a sixth tray", x.tray(3, 3), FULL);
        due("a sixth, of no kind", x.tray(7, 3), NONE);
        due("a sixth, with a bad v", x.tray(3, 10), BAD);
        due("count(1)", x.count(1), 5);
    }

    private static void promise3() {
        BothSidesSheet x = with(3, 6, 9, ODD);
        x.tray(5, 0);
        due("of(0, 0)", x.of(0, 0), 6);
        due("of(0, 1)", x.of(0, 1), 9);
        due("of(1, 0)", x.of(1, 0), 5);
        due("of(1, 1)", x.of(1, 1), 0);
        due("of(0, 2)", x.of(0, 2), 0);
        x.run(0, 0);
        x.run(0, 0);
        due("of(0, 2) behind two runs", x.of(0, 2), 2);
        due("of(1, 2) of another", x.of(1, 2), 0);
        due("of(0, 3)", x.of(0, 3), NONE);
        due("of(0, -1)", x.of(0, -1), NONE);
        due("of(2, 0)", x.of(2, 0), NONE);
        due("of(-1, 0)", x.of(-1, 0), NONE);
        due("of(MIN, MAX)", x.of(MIN, MAX), NONE);
    }

    private static void promise4() {
        BothSidesSheet x = with(6, 6, 9, "till 24");
        x.tray(3, 0);
        due("row(0, 0, 5)", x.row(0, 0, 5), 0);
        due("row(0, 0, 9)", x.row(0, 0, 9), 5);
        due("row(0, 3, 1)", x.row(0, 3, 1), 0);
        due("row(0, 0, 10)", x.row(0, 0, 10), BAD);
        due("row(0, 0, -1)", x.row(0, 0, -1), BAD);
        due("row(0, 4, 10): the part is named first", x.row(0, 4, 10), NONE);
        due("row(0, -1, 0)", x.row(0, -1, 0), NONE);
        due("row(2, 0, 0)", x.row(2, 0, 0), NONE);
        due("row(-1, 0, 0)", x.row(-1, 0, 0), NONE);
        due("row(1, 0, 10): the number is named first", x.row(1, 0, 10), BAD);
        due("row(1, 0, 3)", x.row(1, 0, 3), STATE);
        due("run", x.run(0, 0), 6);
        sides("a told run", x, 0, 6, 14, 5, 3, 2, 10);
        due("row(0, 0, 0)", x.row(0, 0, 0), 9);
        due("row(0, 3, 0)", x.row(0, 3, 0), 1);
    }

    private static void promise5() {
        BothSidesSheet x = new BothSidesSheet();
        due("feed(-1)", x.feed(-1), BAD);
        due("feed(128)", x.feed(128), BAD);
        due("feed(MIN)", x.feed(MIN), BAD);
        due("feed(MAX)", x.feed(MAX), BAD);
        due("count(6)", x.count(6), 0);
        due("feed(0)", x.feed(0), 1);
        due("feed(127)", x.feed(127), 2);
        for (int i = 3; i <= 100; i++) {
            due("feed(65)", x.feed(65), i);
        }
        due("a 101st sign", x.feed(65), FULL);
        due("a bad one then", x.feed(128), BAD);
        due("count(6)", x.count(6), 100);
    }

    private static void fault(String text, int place) {
        BothSidesSheet x = new BothSidesSheet();
        feedAll(x, text);
        due("job() of '" + text + "'", x.job(), -10 - place);
        due("count(6) behind a fault", x.count(6), 0);
        due("count(2) behind a fault", x.count(2), 0);
        due("a good one behind it", job(x, "till 1"), 0);
    }

    private static void reads(String text) {
        due("job() of '" + text + "'", job(new BothSidesSheet(), text), 0);
    }

    private static void promise6() {
        fault("", 0);
        fault(" from 1", 0);
        fault("f", 1);
        fault("frm 1", 2);
        fault("t", 1);
        fault("ta", 1);
        fault("tu", 2);
        fault("tull 1", 2);
        fault("till", 4);
        fault("till1", 4);
        fault("till ", 5);
        fault("till  1", 5);
        fault("till x", 5);
        fault("till -1", 5);
        fault("till 1 ", 6);
        fault("till 123", 7);
        fault("till 1;", 7);
        fault("till 1;til", 10);
        fault("till 1;tik 1", 9);
        fault("till 1; till 2", 7);
        fault("till 1,till 2", 6);
        fault("skip 1", 5);
        fault("skip p", 6);
        fault("skip p!1", 6);
        fault("skip p=", 7);
        fault("skip p=x", 7);
        fault("skip p=123", 9);
        fault("skip p<=1", 7);
        fault("skip p=1|", 9);
        fault("skip p=1&&o=1", 9);
        fault("skip p=1||o=1", 9);
        fault("skip p=1!", 8);
        fault("skip (p=1", 9);
        fault("skip p=1)", 8);
        fault("skip ()", 6);
        fault("skip (p=1;till 3", 9);
        fault("skip P=1", 5);
        fault("skip !", 6);
        fault("turn !!!!!p=1", 9);
        fault("turn !(!(!p=1))", 9);
        fault("turn !(!(p=1))|((((!p=1))))", 19);
        fault("turn !(!((p=1)))", 9);
        fault("turn (((((p=1)))))", 9);
        fault("From 1", 0);
        reads("from 0");
        reads("till 99");
        reads("turn !!!!p=1");
        reads("turn ((((p=1))))&((((p=2))))|!!((p=3))");
        reads("skip p=1&o=1|t=1&k=1|v=1&n=1|p<99|p>0");
        String nine = "till 1;till 1;till 1;till 1;till 1;till 1;till 1;till 1;till 1;";
        reads(nine + "till 2");
        fault(nine + "till 2;", 69);
        fault(nine + "till 2;till 3", 69);
        fault(nine, 63);
        BothSidesSheet x = new BothSidesSheet();
        for (int i = 0; i < 6; i++) {
            due("job", job(x, "from " + i), i);
        }
        feedAll(x, "from");
        due("a seventh job", x.job(), FULL);
        due("the text stays", x.count(6), 4);
        due("count(2)", x.count(2), 6);
        due("jobs(5, 0)", x.jobs(5, 0), 5);
    }

    /** A text of all its 100 bytes, and one that ends too early there. */
    private static void longTexts() {
        StringBuilder s = new StringBuilder("skip p>20");
        for (int i = 0; i < 18; i++) {
            s.append(i % 2 == 0 ? "|p=22" : "&p=21");
        }
        due("a long text", s.length(), 99);
        fault(s + "|", 100);
        fault(s + "&", 100);
        BothSidesSheet x = with(12, 0, 0, s.toString());
        due("count(2)", x.count(2), 1);
        due("pages", x.after(0, 0, 1), 12);
        StringBuilder or = new StringBuilder("skip p=1");
        for (int i = 0; i < 23; i++) {
            or.append(i < 19 ? "|p=3" : "|o=0");
        }
        due("a full text", or.length(), 100);
        x = with(12, 0, 0, or.toString());
        due("pages", x.after(0, 0, 1), 10);
        due("first of them", x.after(0, 0, 21), 5);
    }

    /** Of a tray with v, whether a page is turned by this; pages 1 to 12, none skipped. */
    private static void turns(String e, int kind, int v, String turned) {
        BothSidesSheet x = with(12, kind, v, "turn " + e);
        x.run(0, 0);
        for (int i = 0; i < 12; i++) {
            due("page " + (i + 1) + " by " + e, x.sheet(11 - i, 2), turned.charAt(i) - '0');
        }
    }

    private static void tests() {
        turns("p=3", 0, 0, "001000000000");
        turns("p<3", 0, 0, "110000000000");
        turns("p<0", 0, 0, "000000000000");
        turns("!p<0", 0, 0, "111111111111");
        turns("p<99", 0, 0, "111111111111");
        turns("p>99", 0, 0, "000000000000");
        turns("p<10", 0, 0, "111111111000");
        turns("p>10", 0, 0, "000000000011");
        turns("p=12|p=1", 0, 0, "100000000001");
        turns("o=1", 0, 0, "101010101010");
        turns("o=0", 0, 0, "010101010101");
        turns("t=1", 0, 0, "100000000010");
        turns("t<2", 0, 0, "100000000110");
        turns("k=0", 0, 0, "111111111111");
        turns("k>0", 0, 0, "000000000000");
        turns("k=1", 0, 1, "000000000000");
        turns("v=7", 0, 7, "111111111111");
        turns("v>7", 0, 7, "000000000000");
        turns("n=0", 0, 0, "100000000000");
        turns("n>9", 0, 0, "000000000011");
        turns("!n=0", 0, 0, "011111111111");
        turns("!!n=0", 0, 0, "100000000000");
        turns("p=1|p=2&p=3", 0, 0, "100000000000");
        turns("(p=1|p=2)&p=2", 0, 0, "010000000000");
        turns("!p=1&p<4", 0, 0, "011000000000");
        turns("!(p=1&p<4)", 0, 0, "011111111111");
        turns("!(p>3|o=0)", 0, 0, "101000000000");
        turns("p=1;turn p=2;turn p=3&o=0", 0, 0, "110000000000");
        turns("p<12;turn p=1", 0, 0, "111111111110");
        turns("p=2;till 24;from 1", 0, 0, "010000000000");
        turns("p>3&p<6|p>7&p<10&!p=8", 0, 0, "000110001000");
        BothSidesSheet x = with(12, 0, 0, "skip p=2|p=3;skip p=5;skip n=2&p<8");
        x.run(0, 0);
        sides("skips", x, 0, 17, 16, 15, 14, 13, 12, 11, 10, 9, 8, 4, 1);
    }

    private static void promise7() {
        BothSidesSheet x = with(0, 0, 0, "till 24");
        due("load(0)", x.load(0), BAD);
        due("load(13)", x.load(13), BAD);
        due("load(-1)", x.load(-1), BAD);
        due("load(MIN)", x.load(MIN), BAD);
        due("load(MAX)", x.load(MAX), BAD);
        due("load(2)", x.load(2), 2);
        x.run(0, 0);
        x.turn(2);
        due("load(3)", x.load(3), 5);
        sides("blank ones on top", x, 0, 0, 0, 0, 2, 1);
        sides("whether head down", x, 2, 0, 0, 0, 1, 1);
        due("load(8)", x.load(8), FULL);
        due("load(13)", x.load(13), BAD);
        due("load(7)", x.load(7), 12);
        due("load(1)", x.load(1), FULL);
        due("the lowest", x.sheet(11, 0), 1);
        due("load(12) on none", new BothSidesSheet().load(12), 12);
    }

    private static void promise8() {
        BothSidesSheet x = with(5, 0, 0, "till 24");
        x.run(0, 0);
        due("empty()", x.empty(), 5);
        due("empty()", x.empty(), 0);
        due("count(0)", x.count(0), 0);
        due("sheet(0, 0)", x.sheet(0, 0), NONE);
        due("load(5)", x.load(5), 5);
        sides("blank again", x, 0, 0, 0, 0, 0, 0);
        due("count(1)", x.count(1), 1);
    }

    private static void promise9() {
        BothSidesSheet x = with(3, 0, 0, "till 3;turn p=3");
        x.run(0, 0);
        sides("pages", x, 0, 3, 2, 1);
        due("turn(0)", x.turn(0), 0);
        sides("pages", x, 0, 3, 2, 1);
        due("turn(1)", x.turn(1), 0);
        sides("upper", x, 0, 0, 0, 0);
        sides("lower", x, 1, 1, 2, 3);
        sides("upper head down", x, 2, 0, 0, 0);
        sides("lower head down", x, 3, 0, 0, 1);
        due("turn(2)", x.turn(2), 0);
        sides("lower", x, 1, 1, 2, 3);
        sides("upper head down, though blank", x, 2, 1, 1, 1);
        sides("lower head down", x, 3, 1, 1, 0);
        due("turn(3)", x.turn(3), 0);
        sides("upper", x, 0, 3, 2, 1);
        sides("upper head down", x, 2, 1, 0, 0);
        sides("lower head down", x, 3, 0, 0, 0);
        due("turn(4)", x.turn(4), NONE);
        due("turn(-1)", x.turn(-1), NONE);
        due("turn(MIN)", x.turn(MIN), NONE);
        sides("upper", x, 0, 3, 2, 1);
        BothSidesSheet right = rightOnes();
        due("turn(2) of right ones", right.turn(2), 0);
        due("turn(2) of right ones again", right.turn(2), 3);
        due("turn(1) of right ones", right.turn(1), 0);
        due("turn(3) of them", right.turn(3), 0);
        due("turn(2) of them", right.turn(2), 3);
    }

    /** Three right sheets: the lower sides in even pages from the last on, then the upper ones. */
    private static BothSidesSheet rightOnes() {
        BothSidesSheet x = with(3, 1, 0, "skip o=1;till 6");
        x.tray(4, 0);
        job(x, "skip o=0;till 5");
        x.run(0, 0);
        x.run(1, 1);
        x.turn(1);
        return x;
    }

    private static void promise10() {
        BothSidesSheet x = rightOnes();
        sides("upper", x, 0, 1, 3, 5);
        sides("lower", x, 1, 2, 4, 6);
        sides("right", x, 4, 1, 1, 1);
        x.turn(2);
        sides("upper head down", x, 2, 1, 1, 1);
        sides("lower head down", x, 3, 1, 1, 1);
        sides("right", x, 4, 0, 0, 0);
        due("sheet(3, 0)", x.sheet(3, 0), NONE);
        due("sheet(-1, 0)", x.sheet(-1, 0), NONE);
        due("sheet(0, 5)", x.sheet(0, 5), NONE);
        due("sheet(0, -1)", x.sheet(0, -1), NONE);
        due("sheet(MAX, MIN)", x.sheet(MAX, MIN), NONE);
        BothSidesSheet half = with(1, 1, 0, "skip o=1;turn p=2");
        half.tray(0, 0);
        job(half, "till 1");
        half.run(0, 0);
        half.run(1, 1);
        due("upper", half.sheet(0, 0), 1);
        due("lower", half.sheet(0, 1), 2);
        due("lower head down", half.sheet(0, 3), 1);
        due("not right by that", half.sheet(0, 4), 0);
    }

    private static void promise11() {
        BothSidesSheet x = rightOnes();
        due("told(0)", x.told(0), 3);
        due("told(1)", x.told(1), 0);
        due("told(2)", x.told(2), 0);
        due("told(3)", x.told(3), 0xffffc0);
        x.run(1, 1);
        due("told(1)", x.told(1), 3);
        due("told(0)", x.told(0), 0);
        due("told(3)", x.told(3), 0xffffd5);
        x.load(2);
        due("told(2)", x.told(2), 4);
        due("told(4)", x.told(4), NONE);
        due("told(-1)", x.told(-1), NONE);
        due("told(MIN)", x.told(MIN), NONE);
        BothSidesSheet all = with(12, 1, 0, "till 24");
        all.run(0, 0);
        job(all, "from 13");
        all.run(0, 1);
        due("no page is missing", all.told(3), 0);
        BothSidesSheet told = with(1, 6, 5, "from 24");
        told.row(0, 0, 9);
        told.run(0, 0);
        due("page 33", told.sheet(0, 0), 33);
        due("a page above 24 is none of those", told.told(3), 0xffffff);
        due("find(33)", told.find(33), 0);
    }

    private static void bounds(String text, int from, int till) {
        BothSidesSheet x = new BothSidesSheet();
        job(x, text);
        due("FROM of " + text, x.jobs(0, 0), from);
        due("TILL of " + text, x.jobs(0, 1), till);
    }

    private static void promise12() {
        bounds("skip p=1", 1, 24);
        bounds("from 0", 1, 24);
        bounds("from 00;till 00", 1, 0);
        bounds("from 5;till 9", 5, 9);
        bounds("from 05;till 09;from 7;till 3", 7, 3);
        bounds("till 24", 1, 24);
        bounds("till 25", 1, 24);
        bounds("from 99;till 99", 99, 24);
        bounds("from 9;from 0;till 9;till 99", 1, 24);
        BothSidesSheet x = new BothSidesSheet();
        due("jobs(0, 0)", x.jobs(0, 0), NONE);
        job(x, "till 3");
        due("jobs(0, 2)", x.jobs(0, 2), NONE);
        due("jobs(0, -1)", x.jobs(0, -1), NONE);
        due("jobs(1, 0)", x.jobs(1, 0), NONE);
        due("jobs(-1, 0)", x.jobs(-1, 0), NONE);
    }

    private static void promise13() {
        BothSidesSheet x = with(4, 0, 0, "till 3");
        due("run by a tray", x.run(0, 0), 3);
        sides("what is left lies on top", x, 0, 0, 3, 2, 1);
        x = with(4, 1, 0, "till 3;turn p=2");
        due("run by a flipping one", x.run(0, 0), 3);
        sides("upper", x, 0, 0, 0, 0, 0);
        sides("lower", x, 1, 0, 3, 2, 1);
        sides("lower head down", x, 3, 0, 0, 1, 0);
        sides("upper head down", x, 2, 0, 0, 0, 0);
        x = with(4, 2, 0, "till 3;turn p=2");
        due("run by a turning one", x.run(0, 0), 3);
        sides("lower", x, 1, 0, 3, 2, 1);
        sides("lower head down", x, 3, 0, 1, 0, 1);
        sides("upper head down", x, 2, 0, 1, 1, 1);
        x = with(5, 3, 0, "till 3");
        due("run by a damp one", x.run(0, 0), 3);
        sides("every second one goes through", x, 0, 3, 0, 2, 0, 1);
        x = with(5, 3, 2, "turn n=2");
        due("run by a damp one, v 2", x.run(0, 0), 4);
        sides("the fourth goes through", x, 0, 4, 0, 3, 2, 1);
        sides("n is of sheets", x, 2, 0, 0, 1, 0, 0);
        x = with(4, 4, 0, "till 3");
        due("run by a reversing one", x.run(0, 0), 3);
        sides("the lowest are taken", x, 1, 0, 3, 2, 1);
        sides("upper", x, 0, 0, 0, 0, 0);
        due("run by it again", x.run(0, 0), 3);
        sides("in their places", x, 0, 0, 3, 2, 1);
        sides("and over", x, 1, 0, 3, 2, 1);
        x = with(5, 5, 1, "till 9");
        due("run by a curled one", x.run(0, 0), 2);
        sides("lower", x, 1, 0, 0, 0, 2, 1);
        sides("lower head down", x, 3, 0, 0, 0, 1, 1);
        sides("upper head down", x, 2, 0, 0, 0, 1, 1);
        leftOnes();
        runsToldAndSpoils();
        runEnds();
    }

    /** Those that are left keep their order, whatever is on them. */
    private static void leftOnes() {
        BothSidesSheet x = with(5, 0, 0, "till 24");
        job(x, "till 2");
        x.tray(4, 0);
        x.run(0, 0);
        sides("five", x, 0, 5, 4, 3, 2, 1);
        due("two of them", x.run(0, 1), 2);
        sides("left on top", x, 0, 3, 2, 1, 99, 99);
        due("the two lowest", x.run(1, 1), 2);
        sides("left on top, the others over", x, 0, 3, 2, 1, 0, 0);
        sides("spoiled ones below", x, 1, 0, 0, 0, 99, 99);
    }

    private static void runsToldAndSpoils() {
        BothSidesSheet x = with(6, 6, 1, "from 2;turn p=3");
        x.row(0, 0, 1);
        x.row(0, 1, 2);
        x.row(0, 2, 3);
        x.row(0, 3, 4);
        due("run by a told one", x.run(0, 0), 4);
        sides("its row, every third through", x, 0, 0, 6, 8, 0, 5, 3);
        sides("the job's own page is turned by", x, 2, 0, 0, 0, 0, 1, 0);
        x = with(2, 0, 0, "turn p>0");
        x.run(0, 0);
        due("run on what is printed", x.run(0, 0), 2);
        sides("spoiled", x, 0, 99, 99);
        sides("the right way up", x, 2, 0, 0);
        due("spoiled ones spoil", x.run(0, 0), 2);
        sides("spoiled", x, 0, 99, 99);
        x = with(1, 0, 0, "from 7");
        x.turn(2);
        x.run(0, 0);
        due("a blank side that was head down", x.sheet(0, 2), 0);
        due("its other side", x.sheet(0, 3), 1);
        due("its page", x.sheet(0, 0), 7);
    }

    private static void runEnds() {
        BothSidesSheet x = with(3, 0, 0, "from 5;till 4");
        due("none is within", x.run(0, 0), 0);
        due("but it ran", x.of(0, 2), 1);
        sides("blank", x, 0, 0, 0, 0);
        x = with(3, 3, 0, "skip p>0");
        due("all are skipped", x.run(0, 0), 0);
        due("uses", x.uses(0, 0), 0);
        x = with(0, 0, 0, "till 9");
        due("no sheets", x.run(0, 0), 0);
        due("but it ran", x.of(0, 2), 1);
        x = with(12, 0, 0, "from 24");
        due("one page", x.run(0, 0), 1);
        due("run(1, 0)", x.run(1, 0), NONE);
        due("run(-1, 0)", x.run(-1, 0), NONE);
        due("run(0, 1)", x.run(0, 1), NONE);
        due("run(0, -1)", x.run(0, -1), NONE);
        due("of(0, 2)", x.of(0, 2), 1);
        x = with(2, 5, 0, "till 9");
        due("curled, v 0", x.run(0, 0), 1);
        x = with(2, 3, 0, "skip n=1&p<24");
        due("the page that a sheet goes through with stays", x.run(0, 0), 1);
        sides("one", x, 0, 0, 1);
    }

    /** More calls than are promised, as no fewer can show it. */
    private static void ranOut() {
        BothSidesSheet x = with(1, 0, 0, "till 1");
        for (int i = 0; i < 9999; i++) {
            x.run(0, 0);
        }
        due("of(0, 2)", x.of(0, 2), 9999);
        due("run(0, 0)", x.run(0, 0), STATE);
        due("run(0, 1)", x.run(0, 1), NONE);
        due("after(0, 0, 1)", x.after(0, 0, 1), 1);
    }

    private static void promise14() {
        BothSidesSheet x = with(3, 1, 0, "till 2");
        due("pages", x.after(0, 0, 1), 2);
        due("spoiled", x.after(0, 0, 2), 0);
        due("upper", x.after(0, 0, 10), 0);
        due("lower of 0", x.after(0, 0, 30), 0);
        due("lower of 1", x.after(0, 0, 31), 2);
        due("lower of 2", x.after(0, 0, 32), 1);
        due("upper of 3", x.after(0, 0, 13), NONE);
        due("lower of 3", x.after(0, 0, 33), NONE);
        for (int what : new int[] {-1, 3, 9, 22, 29, 42, MIN, MAX}) {
            due("after " + what, x.after(0, 0, what), NONE);
        }
        due("after(1, 0, 0)", x.after(1, 0, 0), NONE);
        due("after(-1, 0, 0)", x.after(-1, 0, 0), NONE);
        due("after(0, 1, 0)", x.after(0, 1, 0), NONE);
        due("after(0, -1, 0)", x.after(0, -1, 0), NONE);
        due("it did not run", x.of(0, 2), 0);
        sides("blank still", x, 1, 0, 0, 0);
        BothSidesSheet right = rightOnes();
        right.turn(1);
        due("none is right", right.told(0), 0);
        due("spoiled after a run", right.after(0, 1, 2), 3);
        BothSidesSheet last = with(3, 1, 0, "skip o=1;till 6");
        job(last, "skip o=0;till 5");
        last.run(0, 0);
        last.turn(1);
        due("right behind it", last.after(0, 1, 0), 0);
        last.tray(4, 0);
        due("by a reversing one", last.after(1, 1, 0), 0);
        due("of 12 the last", with(12, 0, 0, "till 24").after(0, 0, 21), 1);
        due("of 12 the last lower one", with(12, 1, 0, "till 24").after(0, 0, 41), 1);
    }

    private static void promise15() {
        BothSidesSheet x = new BothSidesSheet();
        due("best(0)", x.best(0), NONE);
        job(x, "till 1");
        due("no trays", x.best(0), NOWHERE);
        due("best(1)", x.best(1), NONE);
        due("best(-1)", x.best(-1), NONE);
        x = halfRight();
        due("after by 0", x.after(0, 1, 0), 0);
        due("after by 1", x.after(1, 1, 0), 1);
        due("after by 2", x.after(2, 1, 0), 1);
        due("the first of the best", x.best(1), 1);
        due("of all alike", x.best(2), 0);
    }

    /** One sheet, 2 below; then a run of page 1 makes it right by any tray that turns none. */
    private static BothSidesSheet halfRight() {
        BothSidesSheet x = with(1, 1, 0, "from 2");
        x.tray(0, 0);
        x.tray(3, 0);
        job(x, "till 1");
        job(x, "from 9;till 8");
        x.run(0, 0);
        return x;
    }

    private static void promise16() {
        BothSidesSheet x = with(0, 0, 0, "till 9");
        due("12 at most", with(0, 0, 0, "till 24").uses(0, 0), 12);
        due("uses(0, 0)", x.uses(0, 0), 9);
        due("count(0)", x.count(0), 0);
        x.tray(3, 1);
        due("damp takes more", x.uses(1, 0), 12);
        x.tray(3, 5);
        due("damp takes one more", x.uses(2, 0), 10);
        x.tray(5, 3);
        due("curled takes fewer", x.uses(3, 0), 4);
        x.tray(6, 9);
        due("told", x.uses(4, 0), 9);
        due("uses(5, 0)", x.uses(5, 0), NONE);
        due("uses(0, 1)", x.uses(0, 1), NONE);
        due("uses(-1, 0)", x.uses(-1, 0), NONE);
        due("uses(0, -1)", x.uses(0, -1), NONE);
        BothSidesSheet full = with(12, 0, 0, "till 24");
        full.run(0, 0);
        due("as if blank", full.uses(0, 0), 12);
        due("what was there stays", full.sheet(0, 0), 12);
        due("none", with(5, 0, 0, "from 9;till 8").uses(0, 0), 0);
    }

    private static void promise17() {
        BothSidesSheet x = five(3);
        job(x, "skip o=1;till 6");
        job(x, "skip o=0;till 5");
        due("which way", x.way(0, 3, 0, 2, 0), 0);
        due("how many by it", x.way(0, 3, 0, 2, 1), 0);
        BothSidesSheet one = with(1, 1, 0, "from 2;turn p=2");
        one.tray(0, 0);
        job(one, "till 1;turn p=1");
        job(one, "till 1");
        due("about behind: none is right", one.way(0, 0, 1, 1, 1), 0);
        due("the way between", one.way(0, 0, 1, 2, 0), 2);
        due("how many", one.way(0, 0, 1, 2, 1), 1);
        due("over and about", one.way(1, 0, 1, 2, 0), 3);
        due("how many", one.way(1, 0, 1, 2, 1), 1);
        BothSidesSheet plain = with(1, 0, 0, "from 2;till 2");
        job(plain, "till 1");
        due("over", plain.way(0, 0, 0, 1, 0), 1);
        due("how many", plain.way(0, 0, 0, 1, 1), 1);
        due("nothing asked changed it", plain.sheet(0, 0), 0);
        due("ran", plain.of(0, 2), 0);
        due("way(1, 0, 0, 0, 0)", plain.way(1, 0, 0, 0, 0), NONE);
        due("way(0, 2, 0, 0, 0)", plain.way(0, 2, 0, 0, 0), NONE);
        due("way(0, 0, 1, 0, 0)", plain.way(0, 0, 1, 0, 0), NONE);
        due("way(0, 0, 0, 2, 0)", plain.way(0, 0, 0, 2, 0), NONE);
        due("way(0, 0, 0, 0, 2)", plain.way(0, 0, 0, 0, 2), NONE);
        due("way(0, 0, 0, 0, -1)", plain.way(0, 0, 0, 0, -1), NONE);
        due("way(-1, -1, -1, -1, 0)", plain.way(-1, -1, -1, -1, 0), NONE);
    }

    private static void promise18() {
        BothSidesSheet x = new BothSidesSheet();
        due("twice(0, 0, 0)", x.twice(0, 0, 0), NONE);
        job(x, "from 2;till 2;turn k=1");
        job(x, "till 1");
        due("no trays", x.twice(0, 1, 0), NOWHERE);
        due("no trays: how many", x.twice(0, 1, 1), 0);
        due("no trays: neither", x.twice(0, 1, 2), NONE);
        due("twice(2, 0, 0)", x.twice(2, 0, 0), NONE);
        due("twice(0, 2, 0)", x.twice(0, 2, 0), NONE);
        due("twice(-1, 0, 1)", x.twice(-1, 0, 1), NONE);
        due("twice(0, 0, -1)", x.twice(0, 0, -1), NONE);
        x.load(1);
        x.tray(1, 0);
        due("by flipping alone: none", x.twice(0, 1, 1), 0);
        due("the first of all", x.twice(0, 1, 0), 0);
        x.tray(0, 0);
        due("flipping, about, plain", x.twice(0, 1, 0), 21);
        due("how many", x.twice(0, 1, 1), 1);
        job(x, "from 2;till 2");
        due("flipping, nothing, plain", x.twice(2, 1, 0), 1);
        due("flipping twice, the pages the other way about", x.twice(1, 2, 0), 0);
        due("how many", x.twice(1, 2, 1), 1);
        BothSidesSheet late = with(1, 5, 0, "skip k<3|k=5;from 2;till 2");
        late.tray(3, 9);
        late.tray(0, 0);
        job(late, "skip !k=0;till 1");
        due("the second, over, the third", late.twice(0, 1, 0), 112);
        due("how many", late.twice(0, 1, 1), 1);
        due("count(0)", x.count(0), 1);
        due("blank still", x.told(2), 2);
    }

    private static void promise19() {
        BothSidesSheet x = with(3, 1, 0, "from 4");
        x.run(0, 0);
        due("find(4)", x.find(4), 21);
        due("find(6)", x.find(6), 1);
        due("find(7)", x.find(7), NOWHERE);
        x.run(0, 0);
        due("on two sheets, upper on the first", x.find(4), 0);
        due("on two sheets, lower on the first", x.find(6), 1);
        x = with(1, 1, 0, "from 4;till 4");
        x.run(0, 0);
        x.run(0, 0);
        due("the upper one first", x.find(4), 0);
        due("find(60)", x.find(60), NOWHERE);
        due("find(1)", x.find(1), NOWHERE);
        due("find(0)", x.find(0), BAD);
        due("find(61)", x.find(61), BAD);
        due("find(99)", x.find(99), BAD);
        due("find(MIN)", x.find(MIN), BAD);
    }

    private static void promise20() {
        BothSidesSheet x = new BothSidesSheet();
        due("see(-1, 9, 99)", x.see(-1, 9, 98), 0);
        due("see(-2, 0, 0)", x.see(-2, 0, 0), BAD);
        due("see(12, 0, 0)", x.see(12, 0, 0), BAD);
        due("see(0, -1, 0)", x.see(0, -1, 0), BAD);
        due("see(0, 2, 0)", x.see(0, 2, 0), BAD);
        due("see(0, 0, -1)", x.see(0, 0, -1), BAD);
        due("see(0, 0, 61)", x.see(0, 0, 61), BAD);
        due("see(0, 0, 98)", x.see(0, 0, 98), BAD);
        due("see(0, 0, 100)", x.see(0, 0, 100), BAD);
        due("see(0, 0, 0)", x.see(0, 0, 0), 1);
        due("see(11, 1, 60)", x.see(11, 1, 60), 2);
        due("see(11, 1, 99)", x.see(11, 1, 99), 3);
        due("see(11, 1, 99)", x.see(11, 1, 99), 4);
        due("see(11, 1, 99)", x.see(11, 1, 99), 5);
        due("a sixth", x.see(0, 0, 0), FULL);
        due("a bad sixth", x.see(12, 0, 0), BAD);
        due("count(3)", x.count(3), 5);
        due("none", x.see(-1, MIN, MAX), 0);
        due("count(3)", x.count(3), 0);
        due("see(3, 0, 5)", x.see(3, 0, 5), 1);
    }

    private static void promise21() {
        BothSidesSheet x = five(3);
        due("nothing seen: all", x.which(0), 31);
        x.see(2, 1, 1);
        due("which(0)", x.which(0), 2 + 4 + 16);
        x.see(0, 1, 5);
        due("two seen", x.which(0), 2 + 4 + 16);
        x.see(5, 0, 0);
        due("of a sheet that there is not: 0", x.which(0), 2 + 4 + 16);
        x.see(5, 0, 1);
        due("so none", x.which(0), 0);
        x.see(-1, 0, 0);
        x.see(2, 0, 1);
        due("which(0)", x.which(0), 1 + 8);
        due("which(2)", x.which(2), NONE);
        due("which(-1)", x.which(-1), NONE);
        due("it did not run", x.of(0, 2), 0);
        BothSidesSheet none = new BothSidesSheet();
        job(none, ODD);
        due("no trays", none.which(0), 0);
        due("head down is not looked at", downSeen(), 1);
    }

    private static int downSeen() {
        BothSidesSheet x = with(1, 0, 0, "turn p>0");
        x.see(0, 0, 1);
        return x.which(0);
    }

    private static void promise22() {
        BothSidesSheet x = with(6, 3, 9, "till 24");
        x.see(4, 0, 0);
        due("by v 0 alone", x.can(0, 0, 0), 1);
        due("the least", x.can(0, 0, 1), 0);
        x.see(-1, 0, 0);
        x.see(3, 0, 0);
        due("by v 1 alone", x.can(0, 0, 0), 1);
        due("the least", x.can(0, 0, 1), 1);
        x.see(-1, 0, 0);
        x.see(3, 0, 3);
        due("by v 2 and more", x.can(0, 0, 0), 8);
        due("the least", x.can(0, 0, 1), 2);
        due("v stays", x.of(0, 1), 9);
        x.see(5, 0, 2);
        due("by none", x.can(0, 0, 0), 0);
        due("no least", x.can(0, 0, 1), NOWHERE);
        due("can(0, 0, 2)", x.can(0, 0, 2), NONE);
        due("can(0, 0, -1)", x.can(0, 0, -1), NONE);
        due("can(1, 0, 0)", x.can(1, 0, 0), NONE);
        due("can(0, 1, 0)", x.can(0, 1, 0), NONE);
        due("can(-1, -1, 0)", x.can(-1, -1, 0), NONE);
        BothSidesSheet by = with(2, 0, 3, "skip v=5|v=9;till 2");
        by.see(0, 0, 2);
        due("by the text's v", by.can(0, 0, 0), 8);
        due("v stays", by.of(0, 1), 3);
        BothSidesSheet curled = with(6, 5, 9, "till 24");
        curled.see(5, 1, 1);
        curled.see(2, 1, 4);
        due("curled", curled.can(0, 0, 0), 7);
        due("the least", curled.can(0, 0, 1), 3);
        due("nothing seen", with(0, 0, 0, ODD).can(0, 0, 0), 10);
    }

    private static void promise23() {
        BothSidesSheet x = halfRight();
        due("0 or more", x.odds(1, 0, 0), 1);
        due("0 or more", x.odds(1, 0, 1), 1);
        due("1 or more", x.odds(1, 1, 0), 2);
        due("1 or more", x.odds(1, 1, 1), 3);
        due("2 or more", x.odds(1, 2, 0), 0);
        due("2 or more", x.odds(1, 2, 1), 1);
        due("12 or more", x.odds(1, 12, 0), 0);
        x.tray(2, 0);
        due("lowest terms", x.odds(1, 1, 0), 1);
        due("lowest terms", x.odds(1, 1, 1), 2);
        due("13 or more", x.odds(1, 13, 0), NO);
        due("-1 or more", x.odds(1, -1, 0), NO);
        due("part 2", x.odds(1, 1, 2), NO);
        due("part -1", x.odds(1, 1, -1), NO);
        due("odds(3, 0, 0)", x.odds(3, 0, 0), NO);
        due("odds(-1, 0, 0)", x.odds(-1, 0, 0), NO);
        due("it did not run", x.of(1, 2), 0);
        BothSidesSheet none = new BothSidesSheet();
        job(none, ODD);
        due("no trays", none.odds(0, 0, 0), NO);
        due("no trays", none.odds(0, 0, 1), NO);
    }

    private static void promise24() {
        BothSidesSheet x = halfRight();
        due("above", x.mean(1, 0), 2);
        due("below", x.mean(1, 1), 3);
        x.tray(2, 0);
        due("lowest above", x.mean(1, 0), 1);
        due("lowest below", x.mean(1, 1), 2);
        due("none above", x.mean(2, 0), 0);
        due("none below", x.mean(2, 1), 1);
        due("part 2", x.mean(1, 2), NO);
        due("part -1", x.mean(1, -1), NO);
        due("mean(3, 0)", x.mean(3, 0), NO);
        due("mean(-1, 0)", x.mean(-1, 0), NO);
        BothSidesSheet none = new BothSidesSheet();
        job(none, ODD);
        due("no trays", none.mean(0, 0), NO);
        BothSidesSheet right = rightOnes();
        job(right, "from 9;till 8");
        due("three by each", right.mean(2, 0), 3);
        due("three by each", right.mean(2, 1), 1);
    }

    private static void promise25() {
        BothSidesSheet x = with(1, 0, 0, ODD);
        due("plan(-1)", x.plan(-1, 99, 99), 0);
        due("plan(-2, 0, 0)", x.plan(-2, 0, 0), NONE);
        due("plan(3, 0, 0)", x.plan(3, 0, 0), NONE);
        due("plan(0, 1, 0)", x.plan(0, 1, 0), NONE);
        due("plan(0, -1, 0)", x.plan(0, -1, 0), NONE);
        due("plan(0, 0, 1)", x.plan(0, 0, 1), NONE);
        due("plan(0, 0, -1)", x.plan(0, 0, -1), NONE);
        due("plan(1, 4, 0)", x.plan(1, 4, 0), NONE);
        due("plan(1, -1, 0)", x.plan(1, -1, 0), NONE);
        due("plan(2, 0, 0)", x.plan(2, 0, 0), BAD);
        due("plan(2, 13, 0)", x.plan(2, 13, 0), BAD);
        due("count(4)", x.count(4), 0);
        due("plan(0, 0, 0)", x.plan(0, 0, 0), 1);
        due("plan(1, 3, 99)", x.plan(1, 3, 99), 2);
        due("plan(2, 12, -99)", x.plan(2, 12, -99), 3);
        due("plan(2, 1, MIN)", x.plan(2, 1, MIN), 4);
        due("plan(1, 0, MAX)", x.plan(1, 0, MAX), 5);
        due("plan(0, 0, 0)", x.plan(0, 0, 0), 6);
        due("a seventh", x.plan(0, 0, 0), FULL);
        due("a seventh of none", x.plan(3, 0, 0), NONE);
        due("a seventh, bad", x.plan(2, 13, 0), BAD);
        due("count(4)", x.count(4), 6);
        due("plan(-1)", x.plan(-1, MIN, MAX), 0);
        due("count(4)", x.count(4), 0);
    }

    private static void promise26() {
        BothSidesSheet x = with(0, 1, 0, "from 2;till 2");
        x.tray(0, 0);
        job(x, "till 1");
        due("an empty plan", x.done(0), 0);
        x.plan(2, 1, 0);
        x.plan(0, 0, 0);
        due("one row to go", x.done(0), 0);
        x.plan(0, 1, 1);
        due("a right one", x.done(0), 1);
        due("none spoiled", x.done(1), 0);
        x.plan(1, 2, 0);
        due("about: not right", x.done(0), 0);
        x.plan(1, 2, 0);
        due("about again: right", x.done(0), 1);
        x.plan(0, 1, 1);
        due("spoiled", x.done(1), 1);
        due("and not right", x.done(0), 0);
        due("count(0)", x.count(0), 0);
        due("it did not run", x.of(0, 2), 0);
        due("done(2)", x.done(2), NONE);
        due("done(-1)", x.done(-1), NONE);
        x.load(1);
        due("the new one is on top of the old: none is printed on twice", x.done(1), 0);
        BothSidesSheet full = rightOnes();
        due("as it is", full.done(0), 3);
        full.plan(2, 12, 0);
        due("nine come, the old are moved", full.done(0), 0);
        full.plan(0, 1, 0);
        due("the lowest three are spoiled", full.done(1), 3);
        due("the stack stays", full.told(0), 3);
        full.load(9);
        full.plan(-1, 0, 0);
        full.plan(2, 1, 0);
        due("no room for one", full.done(1), 0);
        due("count(0)", full.count(0), 12);
    }

    private static void promise27() {
        BothSidesSheet x = new BothSidesSheet();
        due("book(-1, 9, 98)", x.book(-1, 9, 98), 0);
        due("book(-2, 0, 0)", x.book(-2, 0, 0), BAD);
        due("book(12, 0, 0)", x.book(12, 0, 0), BAD);
        due("book(0, -1, 0)", x.book(0, -1, 0), BAD);
        due("book(0, 2, 0)", x.book(0, 2, 0), BAD);
        due("book(0, 0, -1)", x.book(0, 0, -1), BAD);
        due("book(0, 0, 61)", x.book(0, 0, 61), BAD);
        due("book(0, 0, 98)", x.book(0, 0, 98), BAD);
        due("book(0, 0, 100)", x.book(0, 0, 100), BAD);
        for (int i = 1; i <= 8; i++) {
            due("book", x.book(11, i % 2, i == 8 ? 99 : i == 7 ? 60 : 0), i);
        }
        due("a ninth", x.book(0, 0, 0), FULL);
        due("a bad ninth", x.book(0, 0, 61), BAD);
        due("count(5)", x.count(5), 8);
        due("none", x.book(-1, MIN, MAX), 0);
        due("count(5)", x.count(5), 0);
        due("SEEN is another", x.count(3), 0);
    }

    private static void promise28() {
        BothSidesSheet x = rightOnes();
        due("no book", x.looked(), NOWHERE);
        x.book(0, 0, 1);
        x.book(2, 1, 6);
        x.book(7, 1, 0);
        due("all so", x.looked(), NOWHERE);
        x.book(7, 1, 1);
        x.book(0, 0, 3);
        due("of a sheet that there is not: 0", x.looked(), 3);
        x.turn(1);
        due("the first", x.looked(), 0);
        x.turn(3);
        due("head down does not matter", x.looked(), 3);
        x.book(-1, 0, 0);
        due("no book", x.looked(), NOWHERE);
        x.book(2, 0, 5);
        x.book(0, 0, 1);
        due("now there are three", x.looked(), NOWHERE);
        x.empty();
        due("now there is none", x.looked(), 0);
        x.book(-1, 0, 0);
        x.book(2, 0, 0);
        due("nothing is on it", x.looked(), NOWHERE);
    }

    private static void promise29() {
        BothSidesSheet x = new BothSidesSheet();
        due("judge(-1, 0)", x.judge(-1, 0), NONE);
        due("judge(6, 0)", x.judge(6, 0), NONE);
        due("nothing to look at", x.judge(0, 0), NOWHERE);
        due("nothing to look at, below 0", x.judge(0, -1), NOWHERE);
        for (int sort = 1; sort < 5; sort++) {
            x.tape(0, sort, 9);
            due("no row of bytes", x.judge(0, 0), CAST);
        }
        x.tape(0, 0, 9);
        due("nothing to look at", x.judge(0, 99), NOWHERE);
        x.load(3);
        x.tray(0, 0);
        job(x, "till 3");
        x.run(0, 0);
        due("judge(0, 0)", x.judge(0, 0), 0);
        x.item(0, 6, 3);
        x.item(0, 7, 2);
        due("the third is otherwise", x.judge(0, 6), 2);
        x.item(0, 8, 1);
        due("all so", x.judge(0, 6), NOWHERE);
        due("the first", x.judge(0, 7), 0);
        x.item(0, 7, 3);
        x.item(0, 8, 2);
        due("it ends", x.judge(0, 7), 102);
        due("it ends at once", x.judge(0, 9), 100);
        due("far behind", x.judge(0, MAX), 100);
        due("below 0", x.judge(0, -1), 100);
        due("far below 0", x.judge(0, MIN), 100);
        due("holds nothing", x.judge(1, 0), 100);
        x.tape(1, 0, 0);
        due("a row of none", x.judge(1, 0), 100);
        x.item(0, 6, 259);
        due("lowest bits", x.judge(0, 6), 1);
        x.tape(1, 2, 9);
        due("ints", x.judge(1, -1), CAST);
    }

    private static void promise30() {
        BothSidesSheet x = with(3, 0, 0, ODD);
        due("image()", x.image(), 3);
        x.load(2);
        due("undo()", x.undo(), 3);
        x.load(4);
        due("a later image", x.image(), 7);
        x.empty();
        due("undo()", x.undo(), 7);
        due("an image changes nothing", x.count(1), 1);
        due("of none", new BothSidesSheet().image(), 0);
    }

    private static void promise31() {
        BothSidesSheet x = with(3, 6, 4, "till 3;turn o=1");
        due("undo() without one", x.undo(), STATE);
        x.row(0, 2, 7);
        x.run(0, 0);
        x.see(0, 0, 10);
        x.plan(2, 4, 0);
        x.plan(0, 0, 0);
        x.book(1, 0, 2);
        x.tape(0, 0, 3);
        x.act(0, 2, 5);
        String was = all(x);
        due("image()", x.image(), 3);
        x.run(0, 0);
        x.row(0, 2, 1);
        x.tray(1, 1);
        x.load(5);
        x.turn(3);
        x.see(-1, 0, 0);
        x.see(1, 1, 1);
        x.plan(-1, 0, 0);
        x.book(3, 0, 2);
        due("undo()", x.undo(), 3);
        Due.holds("all is as it was", all(x).equals(was));
        due("row(0, 2, 7)", x.row(0, 2, 7), 7);
        x.empty();
        x.tray(2, 2);
        job(x, "from 5");
        x.feed(65);
        x.item(0, 1, 9);
        x.act(0, 0, 5);
        due("undo() again", x.undo(), 3);
        due("jobs stay", x.count(2), 2);
        due("the text stays", x.count(6), 1);
        due("tapes stay", x.read(0, 1), 9);
        due("the trace stays", x.count(7), 2);
        due("trays don't", x.count(1), 1);
        due("a tray then", x.tray(3, 5), 1);
        due("its v", x.of(1, 1), 5);
        due("it did not run", x.of(1, 2), 0);
        x = new BothSidesSheet();
        x.image();
        x.tray(6, 1);
        x.row(0, 0, 9);
        x.undo();
        x.tray(6, 1);
        due("a new one's row", x.row(0, 0, 1), 0);
    }

    private static void imagedRows() {
        BothSidesSheet x = with(4, 1, 0, "till 4");
        x.tray(0, 0);
        x.see(3, 1, 1);
        x.see(2, 1, 2);
        x.plan(0, 1, 0);
        x.plan(0, 1, 0);
        x.book(0, 0, 0);
        x.book(2, 0, 7);
        x.image();
        due("which", x.which(0), 1);
        due("looked", x.looked(), 1);
        due("done", x.done(1), 4);
        x.see(-1, 0, 0);
        x.see(1, 0, 9);
        x.see(2, 0, 9);
        x.plan(-1, 0, 0);
        x.plan(1, 1, 0);
        x.plan(2, 2, 0);
        x.book(-1, 0, 0);
        x.book(1, 1, 5);
        x.book(1, 1, 0);
        due("which", x.which(0), 0);
        due("looked", x.looked(), 0);
        due("done", x.done(1), 0);
        x.undo();
        due("which is as it was", x.which(0), 1);
        due("looked is as it was", x.looked(), 1);
        due("done is as it was", x.done(1), 4);
        x.tray(2, 2);
        x.run(2, 0);
        x.undo();
        x.tray(2, 2);
        due("a new tray has not run", x.of(2, 2), 0);
        x.image();
        x.run(2, 0);
        x.run(0, 0);
        due("ran", x.of(2, 2), 1);
        x.undo();
        due("RAN is as it was", x.of(2, 2), 0);
        due("RAN is as it was", x.of(0, 2), 0);
    }

    private static void acts(int kind, int act, int x, int answer, int... bodies) {
        BothSidesSheet s = new BothSidesSheet();
        s.tray(0, 0);
        s.tray(0, 0);
        s.tray(0, 0);
        s.tray(kind, 5);
        String call = "act " + act + " of a tray of kind " + kind;
        due(call, s.act(3, act, x), answer);
        due("bodies of " + call, s.count(7), bodies.length);
        for (int i = 0; i < bodies.length; i++) {
            due("body " + i + " of " + call, s.trace(i), bodies[i]);
        }
        due("behind the last", s.trace(bodies.length), NONE);
    }

    /** The trays have number 3 and v 5. */
    private static void promise32() {
        acts(0, 0, 10, 13, 10);
        acts(0, 1, 10, 8, 11, 10);
        acts(0, 2, 10, 16, 12, 11, 10);
        acts(1, 0, 10, 13, 10);
        acts(1, 1, 10, 8 ^ 6, 20, 11, 10);
        acts(1, 2, 10, (8 ^ 6) * 2, 12, 20, 11, 10);
        acts(2, 0, 10, 33, 30, 10);
        acts(2, 1, 10, 28, 11, 30, 10);
        acts(2, 2, 10, 56, 12, 11, 30, 10);
        acts(3, 0, 10, 13, 10);
        acts(3, 1, 10, 8, 11, 10);
        acts(3, 2, 10, 15, 40, 12, 11, 10, 11, 10);
        acts(4, 0, 10, -13, 50, 10);
        acts(4, 1, 10, -19 ^ 6, 51, 20, 11, 50, 10);
        acts(4, 2, 10, (-19 ^ 6) * 2, 12, 51, 20, 11, 50, 10);
        acts(5, 0, 10, 33, 30, 10);
        acts(5, 1, 10, 28, 11, 30, 10);
        acts(5, 2, 10, 38, 60, 12, 11, 30, 10);
        acts(6, 0, 10, 13 ^ 5, 71, 10);
        acts(6, 1, 10, (13 ^ 5) - 5 + 5, 70, 11, 71, 10, 10);
        acts(6, 2, 10, 8 * 2 + (4 ^ 5) - 5 + 5, 40, 12, 70, 11, 71, 10, 10, 70, 11, 71, 10, 10);
        acts(0, 0, MAX, MIN + 2, 10);
        acts(2, 0, MAX, MAX - 2 + 3, 30, 10);
        acts(0, 1, MIN, MAX - 1, 11, 10);
        acts(0, 2, MAX, -6, 12, 11, 10);
        acts(0, 3, 1, 0);
        acts(6, -1, 1, 0);
        BothSidesSheet s = with(0, 6, 0, ODD);
        s.act(0, 2, 1);
        due("act(1, 0, 1)", s.act(1, 0, 1), 0);
        due("no trace then", s.count(7), 0);
        due("no trace then", s.trace(0), NONE);
        s.act(0, 2, 1);
        due("act(0, 3, 1)", s.act(0, 3, 1), 0);
        due("no trace then", s.count(7), 0);
        s.act(0, 2, 1);
        due("act(-1, 0, 1)", s.act(-1, 0, 1), 0);
        due("no trace then", s.trace(0), NONE);
    }

    private static void promise33() {
        BothSidesSheet x = with(0, 6, 0, ODD);
        due("trace(0)", x.trace(0), NONE);
        x.act(0, 2, 0);
        due("trace(0)", x.trace(0), 40);
        due("trace(11)", x.trace(11), 10);
        due("trace(12)", x.trace(12), NONE);
        due("trace(-1)", x.trace(-1), NONE);
        due("trace(MIN)", x.trace(MIN), NONE);
        due("trace(MAX)", x.trace(MAX), NONE);
        x.act(0, 0, 0);
        due("of the latest alone", x.trace(0), 71);
        due("of the latest alone", x.trace(2), NONE);
        due("of the latest alone", x.trace(5), NONE);
    }

    private static void promise34() {
        String[] lines = {"0", "10", "20", "30", "410", "520", "630"};
        for (int kind = 0; kind < 7; kind++) {
            BothSidesSheet x = new BothSidesSheet();
            x.tray(kind, 0);
            for (int k = 0; k < 7; k++) {
                boolean under = lines[kind].indexOf('0' + k) >= 0;
                due("kind " + kind + " as " + k, x.taken(0, k), under ? kind : CAST);
            }
        }
        BothSidesSheet x = with(0, 0, 0, ODD);
        due("taken(0, 7)", x.taken(0, 7), BAD);
        due("taken(0, -1)", x.taken(0, -1), BAD);
        due("taken(1, 7): the kind is named first", x.taken(1, 7), BAD);
        due("taken(1, 0)", x.taken(1, 0), NOTHING);
        due("taken(-1, 6)", x.taken(-1, 6), NOTHING);
        due("taken(MAX, 6)", x.taken(MAX, 6), NOTHING);
    }

    private static void promise35() {
        BothSidesSheet x = five(7);
        x.see(0, 0, 0);
        x.plan(1, 1, 0);
        x.plan(1, 1, 0);
        x.book(0, 0, 0);
        x.book(0, 0, 0);
        x.book(0, 0, 0);
        feedAll(x, "fromtill");
        x.act(0, 2, 0);
        int[] due = {7, 5, 2, 1, 2, 3, 8, 3};
        for (int i = 0; i < due.length; i++) {
            due("count(" + i + ")", x.count(i), due[i]);
        }
        due("count(8)", x.count(8), BAD);
        due("count(-1)", x.count(-1), BAD);
        due("count(MIN)", x.count(MIN), BAD);
    }

    private static void promise36() {
        BothSidesSheet x = new BothSidesSheet();
        due("tape(-1, 0, 0)", x.tape(-1, 0, 0), NONE);
        due("tape(6, -1, 0)", x.tape(6, -1, 0), NONE);
        due("tape(6, 9, 99)", x.tape(6, 9, 99), NONE);
        due("tape(0, -2, 0)", x.tape(0, -2, 0), BAD);
        due("tape(0, 5, -1)", x.tape(0, 5, -1), BAD);
        due("tape(0, 0, 61)", x.tape(0, 0, 61), BAD);
        due("tape(0, 0, -1)", x.tape(0, 0, -1), SIZE);
        due("tape(0, 4, MIN)", x.tape(0, 4, MIN), SIZE);
        due("read(0, 0)", x.read(0, 0), NO);
        for (int sort = 0; sort < 5; sort++) {
            due("tape", x.tape(sort, sort, 60), 1);
            due("all 0", x.read(sort, 0), 0);
            due("all 0", x.read(sort, 59), 0);
            due("to its end", x.read(sort, 60), NO);
            due("item", x.item(sort, 59, 1), 1);
        }
        due("a refused one changes nothing", x.tape(0, 1, 61), BAD);
        due("read(0, 59)", x.read(0, 59), 1);
        due("anew", x.tape(0, 0, 60), 1);
        due("all 0 again", x.read(0, 59), 0);
        due("of none", x.tape(5, 3, 0), 1);
        due("no place", x.item(5, 0, 0), PLACE);
        due("nothing", x.tape(1, -1, 99), 1);
        due("nothing", x.tape(1, -1, MIN), 1);
        due("nothing there", x.item(1, 0, 0), NOTHING);
        due("nothing there", x.read(1, 59), NO);
        due("nothing there", x.read(1, 0), NO);
    }

    private static void promise37() {
        BothSidesSheet x = new BothSidesSheet();
        due("item(-1, 0, 0)", x.item(-1, 0, 0), NONE);
        due("item(6, 0, 0)", x.item(6, 0, 0), NONE);
        due("item(0, -1, 0)", x.item(0, -1, 0), NOTHING);
        for (int sort = 0; sort < 5; sort++) {
            x.tape(sort, sort, 3);
            due("item(-1)", x.item(sort, -1, 1), PLACE);
            due("item(3)", x.item(sort, 3, 1), PLACE);
            due("item(MIN)", x.item(sort, MIN, 1), PLACE);
            due("item(MAX)", x.item(sort, MAX, 1), PLACE);
            due("item", x.item(sort, 0, 0x8765432187654380L), 1);
            due("item", x.item(sort, 1, 0x1234567800000000L), 1);
            due("item", x.item(sort, 2, -1L), 1);
        }
        long[] first = {-128, 0x4380, 0x87654380, 0x8765432187654380L, 1};
        long[] second = {0, 0, 0, 0x1234567800000000L, 1};
        for (int sort = 0; sort < 5; sort++) {
            due("first of sort " + sort, x.read(sort, 0), first[sort]);
            due("second of sort " + sort, x.read(sort, 1), second[sort]);
            due("third of sort " + sort, x.read(sort, 2), sort == 4 ? 1 : -1);
        }
        x.item(4, 0, 0);
        due("false", x.read(4, 0), 0);
    }

    private static void promise38() {
        BothSidesSheet x = new BothSidesSheet();
        x.tape(5, 3, 2);
        x.item(5, 1, -7);
        due("read(5, 1)", x.read(5, 1), -7);
        due("read(5, 0)", x.read(5, 0), 0);
        due("read(5, 2)", x.read(5, 2), NO);
        due("read(5, -1)", x.read(5, -1), NO);
        due("read(5, MIN)", x.read(5, MIN), NO);
        due("read(5, MAX)", x.read(5, MAX), NO);
        due("read(4, 0)", x.read(4, 0), NO);
        due("read(-1, 0)", x.read(-1, 0), NO);
        due("read(6, 0)", x.read(6, 0), NO);
    }

    private static void promise39() {
        BothSidesSheet x = new BothSidesSheet();
        x.tape(0, 0, 6);
        x.tape(1, 0, 4);
        x.tape(2, 1, 6);
        for (int i = 0; i < 6; i++) {
            x.item(0, i, i + 1);
        }
        due("shift(-1, ..)", x.shift(-1, 0, 0, 0, 0), NONE);
        due("shift(0, 0, 6, ..)", x.shift(0, 0, 6, 0, 0), NONE);
        due("to nothing", x.shift(0, -1, 5, 0, 0), NOTHING);
        due("from nothing", x.shift(5, -1, 2, 0, 0), NOTHING);
        due("unlike sorts", x.shift(0, -1, 2, 0, 0), CAST);
        due("n below 0", x.shift(0, 0, 1, 0, -1), PLACE);
        due("i below 0", x.shift(0, -1, 1, 0, 1), PLACE);
        due("j below 0", x.shift(0, 0, 1, -1, 1), PLACE);
        due("beyond its end", x.shift(0, 3, 1, 0, 4), PLACE);
        due("beyond the other's", x.shift(0, 0, 1, 1, 4), PLACE);
        due("far beyond", x.shift(0, MAX, 1, 0, MAX), PLACE);
        due("far beyond", x.shift(0, 0, 1, MAX, 1), PLACE);
        due("far beyond", x.shift(0, 0, 1, 0, MAX), PLACE);
        due("far below", x.shift(0, 0, 1, 0, MIN), PLACE);
        due("nothing came", x.read(1, 0), 0);
        due("none at the ends", x.shift(0, 6, 1, 4, 0), 0);
        due("none beyond its end", x.shift(0, 7, 1, 0, 0), PLACE);
        due("none beyond the other's", x.shift(0, 0, 1, 5, 0), PLACE);
        due("to another", x.shift(0, 2, 1, 0, 4), 4);
        for (int i = 0; i < 4; i++) {
            due("what came", x.read(1, i), i + 3);
        }
        due("up within one", x.shift(0, 0, 0, 2, 4), 4);
        long[] up = {1, 2, 1, 2, 3, 4};
        for (int i = 0; i < 6; i++) {
            due("up", x.read(0, i), up[i]);
        }
        due("down within one", x.shift(0, 2, 0, 1, 4), 4);
        long[] down = {1, 1, 2, 3, 4, 4};
        for (int i = 0; i < 6; i++) {
            due("down", x.read(0, i), down[i]);
        }
        due("to itself", x.shift(0, 0, 0, 0, 6), 6);
    }

    /** Something of each, and no room for sheets and trays. */
    private static BothSidesSheet filled() {
        BothSidesSheet x = five(12);
        x.see(0, 0, 0);
        x.plan(0, 1, 1);
        x.book(0, 0, 0);
        x.tape(0, 0, 9);
        x.tape(1, 1, 9);
        x.item(0, 3, 7);
        x.act(4, 2, 9);
        x.run(1, 0);
        return x;
    }

    /** Every refused and every asking call: nothing is otherwise behind them. */
    private static void nothingChanges() {
        String was = all(filled());
        int[] some = {MIN, -7, -3, 12, 13, 61, 128, MAX};
        for (int n : some) {
            BothSidesSheet x = filled();
            refuseAll(x, n);
            Due.holds("what is refused of " + n + " changes nothing", all(x).equals(was));
        }
        for (int i = -1; i < 7; i++) {
            BothSidesSheet x = filled();
            askAll(x, i);
            Due.holds("what is asked of " + i + " changes nothing", all(x).equals(was));
        }
    }

    private static void refuseAll(BothSidesSheet x, int n) {
        x.load(1);
        x.tray(1, 1);
        x.undo();
        x.tray(n, 0);
        x.tray(0, n);
        x.row(n, 0, 1);
        x.row(0, n, 1);
        x.row(3, 0, n);
        x.feed(n > 0 && n < 128 ? -n : n);
        x.load(n);
        x.turn(n);
        x.run(n, 0);
        x.run(0, n);
        x.see(n, 0, 1);
        x.see(0, n, 1);
        x.see(0, 0, -Math.abs(n));
        x.plan(n, 0, 0);
        x.plan(0, n, 0);
        x.plan(0, 0, n);
        x.plan(1, n, 0);
        x.plan(2, -Math.abs(n), 0);
        x.book(n, 0, 1);
        x.book(0, n, 1);
        x.book(0, 0, -Math.abs(n));
        x.tape(n, 0, 1);
        x.tape(0, n, 1);
        x.tape(0, 0, n > 0 ? MAX : n);
        x.item(n, 0, 1);
        x.item(0, n > 0 && n < 9 ? 9 : n, 1);
        x.shift(n, 0, 0, 0, 1);
        x.shift(0, 0, n, 0, 1);
        x.shift(0, 8, 0, 1, 2);
        x.shift(0, 3, 1, 0, 2);
    }

    private static void askAll(BothSidesSheet x, int i) {
        for (int k = -1; k < 3; k++) {
            x.after(i, k, 0);
            x.uses(i, k);
            x.can(i, k, 0);
            x.twice(i, k, 0);
            x.odds(k, i, 0);
            x.way(i, k, i, 1, 0);
            x.taken(i, k);
            x.judge(i, k);
            x.find(i);
        }
        x.best(i);
        x.which(i);
        x.mean(i, 0);
        x.done(i);
        x.looked();
        x.trace(i);
    }

    public static void main(String[] args) {
        constants();
        promise1();
        promise2();
        promise3();
        promise4();
        promise5();
        promise6();
        longTexts();
        tests();
        promise7();
        promise8();
        promise9();
        promise10();
        promise11();
        promise12();
        promise13();
        ranOut();
        promise14();
        promise15();
        promise16();
        promise17();
        promise18();
        promise19();
        promise20();
        promise21();
        promise22();
        promise23();
        promise24();
        promise25();
        promise26();
        promise27();
        promise28();
        promise29();
        promise30();
        promise31();
        imagedRows();
        promise32();
        promise33();
        promise34();
        promise35();
        promise36();
        promise37();
        promise38();
        promise39();
        nothingChanges();
        Due.end("PromiseTest");
    }
}
