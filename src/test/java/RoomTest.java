import java.lang.management.ManagementFactory;

/** Rule 12: all rows are made with the object; no call makes anything in the room, but for an exception. */
public final class RoomTest {
    private static final int OBJECTS = 500;
    // An object is used for at most 512 calls; a round is some 150.
    private static final int ROUNDS = 2;
    // What the machine makes for itself is some 1,000; one small object in each round would be 16,000.
    private static final int BYTES_BY_CHANCE = 8_000;
    private static final int BYTES_OF_AN_OBJECT = 16_000;

    private static long sum = 0;

    public static void main(String[] args) {
        // The first round, and the first look, load what the machine needs for itself.
        everyCall(Scene.allOpen());
        bytes();
        Pistekeeper[] all = new Pistekeeper[OBJECTS];
        for (int nth = 0; nth < OBJECTS; nth++) {
            all[nth] = Scene.allOpen();
        }
        long ahead = bytes();
        for (int nth = 0; nth < OBJECTS; nth++) {
            for (int round = 0; round < ROUNDS; round++) {
                everyCall(all[nth]);
            }
        }
        long made = bytes() - ahead;
        Check.same("12: calls make nothing, not " + made + " bytes", made <= BYTES_BY_CHANCE, true);
        long aheadOfNew = bytes();
        sum += new Pistekeeper().many(0);
        long taken = bytes() - aheadOfNew;
        Check.same("12: an object takes " + taken + " bytes", taken <= BYTES_OF_AN_OBJECT, true);
        Check.same("12: the calls were made", sum != 0, true);
        Check.end("RoomTest");
    }

    private static long bytes() {
        return ((com.sun.management.ThreadMXBean) ManagementFactory.getThreadMXBean()).getCurrentThreadAllocatedBytes();
    }

    private static void everyCall(Pistekeeper x) {
        told(x);
        for (int run = 0; run < x.many(2); run++) {
            done(x, run);
            sum += x.wouldRisk(run, 48, -20, 9) + x.wouldMake(run, 48, -20, 0);
        }
        sum += x.nextBlast() + x.couldOpen() + x.digest() + (long) x.meanDepth();
    }

    private static void told(Pistekeeper x) {
        sum += x.pass(6, -6, 9, 9, 0, 0) + x.pass(6, -12, 0, 0, 2, 100) + x.pass(6, 4, 1, 0, 1, 50);
        for (int lift = 0; lift < x.many(1); lift++) {
            sum += x.release(lift) ? 1 : 0;
            sum += x.turn(lift, true) ? 1 : 0;
        }
        sum += x.fill(5000) + x.crowd(5000);
    }

    private static void done(Pistekeeper x, int run) {
        sum += x.guns(run, 9) + x.test(run);
        if (x.ofRun(run, 6) == 1) {
            sum += x.close(run);
        }
        if (x.many(5) > 0) {
            sum += x.blast(run);
        }
        if (x.ofRun(run, 7) > 0) {
            sum += x.search(run);
        }
        sum += x.winch(run, false) ? 1 : 0;
        sum += x.sweep(run) ? 1 : 0;
        int clock = x.many(0) % 24;
        boolean isNight = clock <= 6 || clock >= 18;
        if (isNight && x.ofRun(run, 1) >= 2 && x.many(6) >= 5) {
            sum += x.groom(run);
        }
        sum += x.open(run);
    }
}
