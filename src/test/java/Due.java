/** Counts answers that are not as due; every test program ends by it. */
final class Due {
    private static int looked = 0;
    private static int wrong = 0;

    private Due() { }

    static void is(String call, long got, long want) {
        looked++;
        if (got != want) {
            wrong++;
            System.out.println(call + " answered " + got + ", due is " + want);
        }
    }

    static void holds(String what, boolean so) {
        looked++;
        if (!so) {
            wrong++;
            System.out.println("not so: " + what);
        }
    }

    static boolean allRight() {
        return wrong == 0;
    }

    static void end(String name) {
        System.out.println(name + ": " + looked + " looked at, " + wrong + " wrong");
        if (wrong != 0 || looked == 0) {
            System.exit(1);
        }
    }
}
