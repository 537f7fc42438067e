import java.lang.management.ManagementFactory;
import java.util.function.IntConsumer;

/** How many bytes calls take that are never given back: few, as all calls live in one room. */
public final class RoomTest {
    private RoomTest() { }

    private static long bytes() {
        return ((com.sun.management.ThreadMXBean) ManagementFactory.getThreadMXBean())
                .getThreadAllocatedBytes(Thread.currentThread().getId());
    }

    private static long cost(int calls, IntConsumer call) {
        for (int i = 0; i < 3; i++) {
            call.accept(i);
        }
        long was = bytes();
        for (int i = 0; i < calls; i++) {
            call.accept(i);
        }
        return bytes() - was;
    }

    private static BothSidesSheet full() {
        BothSidesSheet x = new BothSidesSheet();
        x.load(12);
        for (int kind = 0; kind < 5; kind++) {
            x.tray(kind + 2 * (kind / 4), 9);
        }
        for (int i = 0; i < 2; i++) {
            String text = "skip o=" + i + "|(p>9&p<12|!(n<3|k=2));turn p>20;turn v=9&t<5";
            for (int k = 0; k < text.length(); k++) {
                x.feed(text.charAt(k));
            }
            x.job();
        }
        return x;
    }

    private static void little(String name, long cost, long most) {
        Due.holds(name + " takes " + cost + " bytes, at most " + most, cost <= most);
    }

    public static void main(String[] args) {
        BothSidesSheet x = full();
        int calls = 512;
        long few = 4096;
        little("512 times twice", cost(calls, i -> x.twice(0, 1, i & 1)), few);
        little("512 times way", cost(calls, i -> x.way(0, 0, 1, 1, i & 1)), few);
        little("512 times can", cost(calls, i -> x.can(3, 0, i & 1)), few);
        little("512 times best", cost(calls, i -> x.best(i & 1)), few);
        little("512 times mean", cost(calls, i -> x.mean(i & 1, 0)), few);
        little("512 runs", cost(calls, i -> x.run(i % 5, i & 1)), few);
        little("512 images", cost(calls, i -> x.image()), few);
        little("512 times undo", cost(calls, i -> x.undo()), few);
        little("512 tapes", cost(calls, i -> x.tape(i % 6, 3, 60)), few);
        little("512 plans", cost(calls, i -> x.plan(i % 7 - 1, 1, 0)), few);
        little("512 times done", cost(calls, i -> x.done(i & 1)), few);
        little("512 acts", cost(calls, i -> x.act(4, 2, i)), few);
        little("512 times feed and job", cost(calls / 2, i -> {
            x.feed('x');
            x.job();
        }), few);
        little("a new one", cost(10, i -> new BothSidesSheet()) / 10, 16384);
        Due.end("RoomTest");
    }
}
