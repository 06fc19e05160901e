import com.sun.management.ThreadMXBean;
import java.lang.management.ManagementFactory;
import java.util.concurrent.Callable;

/**
 * Counts what the dearest rows of 512 calls make: all of them live in one room of 600,000 objects
 * and 7.3 million fields and elements, of which a row may take a small share.
 */
public final class RoomTest {
    private static final long MOST_BYTES = 2_000_000;

    public static void main(String[] args) {
        small("new, full rooms", RoomTest::fill);
        small("rewriting and matches", RoomTest::rewrite);
        small("shortest films", RoomTest::search);
        small("soundness", RoomTest::sound);
        Check.end();
    }

    private static void small(String what, Callable<?> calls) {
        Check.answer(calls);
        ThreadMXBean threads = (ThreadMXBean) ManagementFactory.getThreadMXBean();
        long id = Thread.currentThread().getId();
        long before = threads.getThreadAllocatedBytes(id);
        Check.due(what, true, calls);
        long bytes = threads.getThreadAllocatedBytes(id) - before;
        System.out.println(what + ": " + bytes + " bytes");
        Check.due(what + " makes little", true, () -> bytes < MOST_BYTES);
    }

    private static boolean fill() {
        Stringdrawer x = new Stringdrawer();
        for (int call = 0; call < 512; call++) {
            int kind = call % Plain.KINDS.length();
            Check.answer(() -> x.box(Plain.KINDS.charAt(kind)));
            Check.answer(() -> x.rank(last(x)));
        }
        return x.diagrams() == 60;
    }

    private static int last(Stringdrawer x) {
        return x.diagrams() - 1;
    }

    private static boolean rewrite() {
        Stringdrawer x = new Stringdrawer();
        int two = x.box('2');
        int six = Draw.of(x, "2|2|2|2|2|2");
        int four = x.then(x.then(six, six), x.then(six, six));
        int rule = x.rule(six, six);
        x.rule(two, two);
        for (int call = 0; call < 512; call++) {
            int number = call;
            Check.answer(() -> x.matches(four, rule));
            Check.answer(() -> x.rewrite(four, rule, number));
            Check.answer(() -> x.simplify(four, 30));
            Check.answer(() -> x.show(four));
        }
        return x.diagrams() == 60;
    }

    private static boolean search() {
        Stringdrawer x = new Stringdrawer();
        int two = x.box('2');
        for (char kind = '3'; kind <= '6'; kind++) {
            x.rule(two, x.box(kind));
        }
        int start = Draw.of(x, "2|2|2|2|2|2");
        int goal = Draw.of(x, "1|1|1|1|1|1");
        for (int call = 0; call < 512; call++) {
            Check.answer(() -> x.reach(start, goal, 4));
        }
        return x.steps() == 0;
    }

    private static boolean sound() {
        Stringdrawer x = new Stringdrawer();
        int piece = Draw.of(x, "c;(2|3);a");
        int four = x.then(x.then(piece, piece), x.then(piece, piece));
        int six = x.then(x.then(four, piece), piece);
        for (int rule = 0; rule < 20; rule++) {
            x.rule(piece, rule % 2 == 0 ? x.box('5') : piece);
        }
        int wire = x.wires(1);
        while (x.diagrams() < 60) {
            x.then(six, wire);
        }
        boolean sound = true;
        for (int call = 0; call < 100; call++) {
            sound &= x.isSound();
        }
        return sound;
    }
}
