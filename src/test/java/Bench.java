import java.util.function.Supplier;
import java.util.function.ToLongFunction;

/** What the tests of single sentences share: objects to begin with, and what can be told of one. */
final class Bench {
    static final int NONE = -1, BAD = -2, STATE = -3, FULL = -4, NOWHERE = -5;
    static final int NOTHING = -11, CAST = -12, PLACE = -13, SIZE = -14;
    static final long NO = Long.MIN_VALUE;
    static final int MIN = Integer.MIN_VALUE, MAX = Integer.MAX_VALUE;

    static final int TRAY = 0, FLIPPING = 1, TURNING = 2, DAMP = 3;
    static final int REVERSING = 4, CURLED = 5, TOLD = 6;
    static final int BYTES = 0, SHORTS = 1, INTS = 2, LONGS = 3, BOOLEANS = 4;

    /** A job that prints nothing: what lies there stays as it is, but for RAN. */
    static final String IDLE = "from 2;till 1";
    static final String NINE_CLAUSES = "till 9;till 9;till 9;till 9;till 9;till 9;till 9;till 9;till 9;";

    private Bench() { }

    /** So many blank sheets, and trays: the kind, the v of each. */
    static BothSidesSheet with(int sheets, int... kindsAndVs) {
        BothSidesSheet x = new BothSidesSheet();
        if (sheets > 0) {
            x.load(sheets);
        }
        for (int i = 0; i + 1 < kindsAndVs.length; i += 2) {
            x.tray(kindsAndVs[i], kindsAndVs[i + 1]);
        }
        return x;
    }

    static int feed(BothSidesSheet x, String text) {
        int n = 0;
        for (int i = 0; i < text.length(); i++) {
            n = x.feed(text.charAt(i));
        }
        return n;
    }

    static int job(BothSidesSheet x, String text) {
        feed(x, text);
        return x.job();
    }

    /** A job that is read and run at once. */
    static int run(BothSidesSheet x, int tray, String text) {
        return x.run(tray, job(x, text));
    }

    /** So many right sheets: jobs 0 and 1 print the even pages, then the odd ones on the backs. */
    static BothSidesSheet right(int sheets) {
        BothSidesSheet x = with(sheets, FLIPPING, 0, REVERSING, 0);
        run(x, 0, "skip o=1;till " + 2 * sheets);
        run(x, 1, "skip o=0;till " + (2 * sheets - 1));
        x.turn(1);
        return x;
    }

    /** From the top on, of each sheet its upper/lower side; v behind a page that is head down. */
    static String stack(BothSidesSheet x) {
        StringBuilder s = new StringBuilder();
        int sheets = x.count(0);
        for (int i = 0; i < sheets; i++) {
            s.append(i == 0 ? "" : " ").append(x.sheet(i, 0)).append(x.sheet(i, 2) == 1 ? "v" : "")
                    .append('/').append(x.sheet(i, 1)).append(x.sheet(i, 3) == 1 ? "v" : "");
        }
        return s.toString();
    }

    static void lies(String name, BothSidesSheet x, String want) {
        String got = stack(x);
        Due.holds(name + ": there lies " + got + ", due is " + want, got.equals(want));
    }

    /** In the middle: room for more of all, something of each, an image that is otherwise. */
    static BothSidesSheet some() {
        BothSidesSheet x = with(3, TOLD, 2, REVERSING, 9);
        x.row(0, 1, 5);
        x.row(0, 3, 9);
        job(x, "till 2;turn p=2");
        job(x, "from 3");
        x.run(0, 0);
        x.plan(1, 3, 0);
        x.book(0, 0, 0);
        x.image();
        x.load(1);
        x.run(1, 0);
        x.row(0, 0, 4);
        x.see(0, 0, 0);
        x.see(1, 0, 0);
        x.plan(0, 0, 1);
        x.book(3, 1, 1);
        for (int sort = BYTES; sort <= BOOLEANS; sort++) {
            x.tape(sort, sort, 4);
            x.item(sort, 1, 7);
        }
        x.act(0, 2, 3);
        feed(x, "fro");
        return x;
    }

    /** Nothing has room for one more; the text is no job. */
    static BothSidesSheet full() {
        BothSidesSheet x = with(12, TOLD, 0, FLIPPING, 1, REVERSING, 2, CURLED, 3, DAMP, 9);
        x.row(0, 2, 9);
        for (int i = 0; i < 6; i++) {
            job(x, "till " + (i + 1));
        }
        x.run(0, 5);
        x.image();
        x.run(1, 3);
        for (int i = 0; i < 100; i++) {
            x.feed('t');
        }
        for (int i = 0; i < 5; i++) {
            x.see(i, 0, 0);
        }
        for (int i = 0; i < 6; i++) {
            x.plan(0, i % 5, i);
        }
        for (int i = 0; i < 8; i++) {
            x.book(i, 1, 0);
        }
        for (int tape = 0; tape < 6; tape++) {
            x.tape(tape, tape % 5, 60);
            x.item(tape, 59, 1);
        }
        x.act(0, 2, 3);
        return x;
    }

    /**
     * All that can be told of an object, in less than 300 calls, so that those ahead of them fit in
     * the 512. What is told last (rows, the text, the image) is told by calls that change it.
     */
    static String told(BothSidesSheet x) {
        StringBuilder s = new StringBuilder();
        held(x, s);
        for (int i = 0; i < 6; i++) {
            s.append(x.jobs(i, 0)).append(' ').append(x.jobs(i, 1)).append(' ');
            s.append(x.which(i)).append(' ').append(x.after(0, i, 1)).append(' ');
            for (int place : new int[] {0, 1, 2, 3, 4, 59, 60}) {
                s.append(x.read(i, place)).append(' ');
            }
        }
        for (int i = 0; i <= 12; i++) {
            s.append(x.trace(i)).append(' ');
        }
        s.append(x.count(6)).append(' ').append(x.count(7)).append(' ');
        rows(x, s);
        feed(x, "m 5");
        int job = x.job();
        s.append(job).append(' ').append(x.jobs(job, 0)).append(' ');
        s.append(x.undo()).append(' ');
        held(x, s);
        rows(x, s);
        return s.toString();
    }

    private static void held(BothSidesSheet x, StringBuilder s) {
        s.append(stack(x)).append(' ');
        for (int i = 0; i < 6; i++) {
            s.append(x.count(i)).append(' ');
        }
        for (int i = 0; i < 5; i++) {
            s.append(x.of(i, 0)).append(x.of(i, 1)).append(x.of(i, 2)).append(' ');
        }
        s.append(x.looked()).append(' ').append(x.done(0)).append(' ').append(x.done(1)).append(' ');
    }

    private static void rows(BothSidesSheet x, StringBuilder s) {
        for (int tray = 0; tray < 5; tray++) {
            if (x.of(tray, 0) == TOLD) {
                for (int part = 0; part < 4; part++) {
                    s.append(x.row(tray, part, 0)).append(' ');
                }
            }
        }
    }

    /** A call's answer, and that all is as if it had not been: of one that is refused, or asks. */
    static void still(String name, Supplier<BothSidesSheet> maker,
            ToLongFunction<BothSidesSheet> call, long want) {
        BothSidesSheet x = maker.get();
        Due.is(name, call.applyAsLong(x), want);
        String got = told(x);
        String was = told(maker.get());
        Due.holds(name + " changes nothing: " + was + " became " + got, got.equals(was));
    }
}
