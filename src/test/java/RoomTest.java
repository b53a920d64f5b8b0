import com.sun.management.ThreadMXBean;
import java.lang.management.ManagementFactory;
import java.util.function.Consumer;

/**
 * What 512 calls make has to be little, as all of it is kept in one room: a works makes its rows when it is made and
 * uses them again.
 */
final class RoomTest {
    private static final int CALLS = 512;
    /** In bytes, for a works and 512 calls: a row of 20 numbers in each call would be more. */
    private static final long ROOM = 50_000;
    private static final ThreadMXBean THREADS = (ThreadMXBean) ManagementFactory.getThreadMXBean();

    public static void main(String[] arguments) {
        littleIsMade("draw and shrunk", x -> {
            x.draw(x.cell(7, 5) == 'c' ? '.' : 'c', 7, 5, 1, 1);
            x.shrunk(1400);
        });
        littleIsMade("bestFeeder", x -> {
            x.draw('.', 0, 0, 12, 9);
            x.draw('g', 5, 0, 1, 1);
            x.draw('c', 5, 1, 1, 1);
            x.draw('k', 4, 1, 1, 1);
            x.bestFeeder(1400);
        });
        littleIsMade("heatAt", x -> x.heatAt(5, 5, 1400, 40));
        littleIsMade("shrunkAnew and isFed", x -> {
            x.shrunkAnew(1400);
            x.isFed(5, 5, 1450);
        });
        littleIsMade("cores and undercut", x -> {
            x.draw('o', 0, 4, 12, 3);
            x.cores();
            x.loose();
            x.undercut();
        });
        littleIsMade("sand and its cores", x -> {
            x.makeCores(1, 1);
            x.hours(10);
            x.mill(1, 1, 1, 1);
        });
        littleIsMade("metal", x -> {
            x.charge('p', 1);
            x.hold(120);
            x.tap(1);
            x.treat(20);
            x.minutes(60);
            x.pig();
        });
        littleIsMade("leastCost", x -> x.leastCost(0, 450, 0, 3, 2, 1));
        littleIsMade("thirty castings", RoomTest::oneMoreCasting);
        littleIsMade("isSound", Ironpour::isSound);
        Check.end("RoomTest");
    }

    private static void oneMoreCasting(Ironpour x) {
        if (x.castings() < 30) {
            x.charge('p', 100);
            x.tap(100);
            x.mould();
            x.pour();
            x.pig();
        } else {
            x.meanBar();
        }
    }

    /** The first round lets the machine load what it needs; the second one is counted. */
    private static void littleIsMade(String what, Consumer<Ironpour> calls) {
        bytesOf(calls);
        long bytes = bytesOf(calls);
        Check.yes(what + " makes " + bytes + " bytes, " + ROOM + " at most", bytes <= ROOM);
    }

    private static long bytesOf(Consumer<Ironpour> calls) {
        long thread = Thread.currentThread().getId();
        long before = THREADS.getThreadAllocatedBytes(thread);
        Ironpour x = Yard.sound();
        for (int call = 0; call < CALLS; call++) {
            calls.accept(x);
        }
        return THREADS.getThreadAllocatedBytes(thread) - before;
    }
}
