import java.lang.management.ManagementFactory;
import java.util.function.ToIntFunction;

/**
 * The room of a run: some 600,000 objects and arrays, and 7.3 million fields and elements in all. An object takes 16
 * bytes or more, and a field or an element one or more; so runs that make less than MOST_BYTES keep far below both.
 * Counted is what all calls of an object make, whether it is kept or not.
 */
public final class RoomTest {
    private static final int CALLS = 512;
    private static final long MOST_BYTES = 1_000_000;
    private static final com.sun.management.ThreadMXBean THREADS = (com.sun.management.ThreadMXBean) ManagementFactory.getThreadMXBean();
    private static int wrong = 0;
    /** Keeps the answers, so that no call can be left out. */
    private static int sum = 0;

    /** The greatest game that there can be, by the first six calls of a run. */
    private static BorrowedHours greatest(int pays) {
        BorrowedHours x = new BorrowedHours();
        x.set(BorrowedHours.END, 3);
        x.set(BorrowedHours.LOAN, 2);
        x.set(BorrowedHours.PAYS, pays);
        x.begin(6, 6);
        x.save(0);
        x.save(1);
        return x;
    }

    /** The bytes that a run makes in which a method is called, or some one after the other, as often as there is time. */
    private static long bytesOf(int pays, int callsEach, ToIntFunction<BorrowedHours> calls) {
        long before = THREADS.getCurrentThreadAllocatedBytes();
        BorrowedHours x = greatest(pays);
        for (int made = 6; made + callsEach <= CALLS; made += callsEach) {
            sum += calls.applyAsInt(x);
        }
        return THREADS.getCurrentThreadAllocatedBytes() - before;
    }

    private static void run(String name, int callsEach, ToIntFunction<BorrowedHours> calls) {
        for (int pays = 0; pays < 2; pays++) {
            // What the machine itself makes when code is used first is not the run's.
            bytesOf(pays, callsEach, calls);
            long bytes = bytesOf(pays, callsEach, calls);
            if (bytes <= 0 || bytes > MOST_BYTES) {
                wrong++;
                System.out.println(name + ", PAYS " + pays + ": makes " + bytes + " bytes");
            }
        }
    }

    private static void eachMethod() {
        run("set", 1, x -> x.set(BorrowedHours.TIE, 1));
        run("begin", 1, x -> x.begin(6, 5));
        run("round", 1, x -> x.round(0, 0));
        run("play", 2, x -> x.play() + x.undo());
        run("run", 3, x -> x.put(0x303a302c303a30L) + x.run() + x.undo());
        run("player", 1, x -> x.player(0, 6));
        run("count", 1, x -> x.count(7));
        run("forced", 1, x -> x.forced(1, 8));
        run("ahead", 1, x -> x.ahead(0, 3));
        run("bestBid", 1, BorrowedHours::bestBid);
        run("bestAnswer", 1, x -> x.bestAnswer(3));
        run("keeps", 1, BorrowedHours::keeps);
        run("leastHours", 1, x -> x.leastHours(1));
        run("put and wipe", 2, x -> x.put(0x3131313131313131L) + x.wipe());
        run("fault", 1, BorrowedHours::fault);
        run("undo", 2, x -> x.begin(6, 6) + x.undo());
        run("save", 1, x -> x.save(1));
        run("restore", 1, x -> x.restore(0));
    }

    /** Another END, TIE and hours at each turn: little that was told before is told again. */
    private static int askUnderOthers(BorrowedHours x, int turn) {
        int hours = turn / 6 % 7;
        x.set(BorrowedHours.END, 1 + turn % 3);
        x.set(BorrowedHours.TIE, turn / 3 % 2);
        return x.begin(6, hours) + x.leastHours(0) + x.leastHours(1) + x.player(0, 6) + x.bestBid();
    }

    public static void main(String[] args) {
        eachMethod();
        int[] turn = {0};
        run("other settings each time", 7, x -> askUnderOthers(x, turn[0]++));
        System.out.println(wrong == 0 ? "all runs have room" : wrong + " runs make too much");
        if (wrong != 0) {
            System.exit(1);
        }
    }
}
