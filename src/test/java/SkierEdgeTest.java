/** The edges of the end of section 2 of the terms: SKIERS, who ride, wear, call and wait. */
public final class SkierEdgeTest {
    private static final int CRUST = 2;

    public static void main(String[] args) {
        from9To16();
        capacity();
        noSkiers();
        onAndHeldAndOpen();
        firstLiftFirst();
        shares();
        smallestOpenNumber();
        allLiftsAndRuns();
        everyMultipleOf200();
        wornOne();
        wornThrough();
        nothingToWear();
        moreThan40AnArea();
        wholeFifties();
        crustAheadOfThat();
        waitedEachHour();
        Check.end("SkierEdgeTest");
    }

    /** 'with a CLOCK of 9 to 16'. */
    private static void from9To16() {
        Pistekeeper x = Scene.resort(100, 9, 1);
        x.crowd(5);
        Scene.hours(x, 1, 0, 0);
        Check.same("2: at 8", x.many(12), 0);
        Scene.hours(x, 1, 0, 0);
        Check.same("2: at 9", x.many(12), 5);
        Scene.hours(x, 6, 0, 0);
        Check.same("2: up to 15", x.many(12), 35);
        Scene.hours(x, 1, 0, 0);
        Check.same("2: at 16", x.many(12), 40);
        Scene.hours(x, 1, 0, 0);
        Check.same("2: at 17", x.many(12), 40);
        Scene.hours(x, 15, 0, 0);
        Check.same("2: up to 8 of the next day", x.many(12), 40);
        Scene.hours(x, 1, 0, 0);
        Check.same("2: at 9 of the next day", x.many(12), 45);
    }

    /** 'takes as many as its CAPACITY, or those that are left'. */
    private static void capacity() {
        int[][] skiersRidesWaited = {{99, 99, 0}, {100, 100, 0}, {101, 100, 1}, {5000, 100, 4900}, {1, 1, 0}};
        for (int[] each : skiersRidesWaited) {
            Pistekeeper x = Scene.resort(100, 9, 1);
            x.crowd(each[0]);
            Scene.hours(x, 2, 0, 0);
            Check.same("2: rides of " + each[0], x.many(12), each[1]);
            Check.same("2: rides of the lift, of " + each[0], x.ofLift(0, 4), each[1]);
            Check.same("2: used by " + each[0], x.ofRun(0, 11), each[1]);
            Check.same("2: waited of " + each[0], x.many(13), each[2]);
            Check.same("2: skiers stay " + each[0], x.many(7), each[0]);
        }
    }

    private static void noSkiers() {
        Pistekeeper x = Scene.resort(100, 1, 2);
        Scene.hours(x, 10, 0, 0);
        Check.same("2: no rides", x.many(12), 0);
        Check.same("2: none waited", x.many(13), 0);
        Check.same("2: no calls", x.many(11), 0);
        Check.same("2: not used", x.ofRun(0, 11), 0);
    }

    /** 'one that is ON, not HELD, and has OPEN RUNS'. */
    private static void onAndHeldAndOpen() {
        Pistekeeper off = Scene.resort(100, 9, 1);
        off.crowd(7);
        off.turn(0, false);
        Scene.hours(off, 2, 0, 0);
        Check.same("2: not on", off.many(12), 0);
        Check.same("2: not on: all wait", off.many(13), 7);
        Pistekeeper held = Scene.resort(100, 9, 1);
        held.crowd(7);
        Scene.hours(held, 1, 0, 0);
        held.pass(1, 0, 0, 6, 1, 100);
        Check.same("2: held in that very hour", held.many(12), 0);
        Check.same("2: held: all wait", held.many(13), 7);
        held.pass(1, 0, 0, 3, 1, 100);
        held.release(0);
        Scene.hours(held, 1, 0, 0);
        Check.same("2: released", held.many(12), 7);
        Pistekeeper closed = Scene.resort(100, 9, 1);
        closed.crowd(7);
        closed.close(0);
        Scene.hours(closed, 2, 0, 0);
        Check.same("2: no open runs", closed.many(12), 0);
        Check.same("2: no open runs: all wait", closed.many(13), 7);
        Pistekeeper none = new Pistekeeper();
        none.crowd(7);
        Scene.hours(none, 9, 0, 0);
        Check.same("2: no lifts: all wait", none.many(13), 7);
    }

    /** 'SKIERS go LIFT by LIFT': the second one takes those that the first one left. */
    private static void firstLiftFirst() {
        int[][] skiersFirstSecondWaited = {{19, 19, 0, 0}, {20, 20, 0, 0}, {21, 20, 1, 0}, {50, 20, 30, 0}, {51, 20, 30, 1}};
        for (int[] each : skiersFirstSecondWaited) {
            Pistekeeper x = new Pistekeeper();
            x.lift(20, 9);
            x.lift(30, 9);
            x.turn(0, true);
            x.turn(1, true);
            x.run(1, 0, 5, 0, 9);
            x.run(0, 0, 5, 0, 9);
            Scene.hours(x, 8, 0, 9);
            Scene.open(x, 0);
            Scene.open(x, 1);
            x.crowd(each[0]);
            Scene.hours(x, 1, 0, 0);
            Check.same("2: first lift, of " + each[0], x.ofLift(0, 4), each[1]);
            Check.same("2: second lift, of " + each[0], x.ofLift(1, 4), each[2]);
            Check.same("2: rides, of " + each[0], x.many(12), each[1] + each[2]);
            Check.same("2: waited, of " + each[0], x.many(13), each[3]);
        }
    }

    /** 'each has as many, what is left over goes to the one with the smallest number'. */
    private static void shares() {
        int[][] skiersAndShares = {{1, 1, 0, 0}, {2, 2, 0, 0}, {3, 1, 1, 1}, {4, 2, 1, 1}, {5, 3, 1, 1}, {6, 2, 2, 2}};
        for (int[] each : skiersAndShares) {
            Pistekeeper x = Scene.resort(100, 9, 3);
            x.crowd(each[0]);
            Scene.hours(x, 2, 0, 0);
            for (int run = 0; run < 3; run++) {
                Check.same("2: run " + run + " of " + each[0], x.ofRun(run, 11), each[1 + run]);
            }
        }
    }

    /** 'its OPEN RUNS': one that is closed, or of another lift, has none of what is left over. */
    private static void smallestOpenNumber() {
        Pistekeeper x = Scene.resort(100, 9, 3);
        x.lift(10, 9);
        x.close(0);
        x.crowd(5);
        Scene.hours(x, 2, 0, 0);
        Check.same("2: the closed one", x.ofRun(0, 11), 0);
        Check.same("2: the smallest open one", x.ofRun(1, 11), 3);
        Check.same("2: the other one", x.ofRun(2, 11), 2);
    }

    /** Four lifts with two open runs each, and skiers for all of them but one. */
    private static void allLiftsAndRuns() {
        Pistekeeper x = Scene.allOpen();
        Check.same("2: all are open", x.many(3), 8);
        x.crowd(405);
        Scene.hours(x, 2, 0, 0);
        for (int lift = 0; lift < 4; lift++) {
            int most = 100 + lift;
            int rides = lift == 3 ? 2 * most - 2 : 2 * most;
            Check.same("2: rides of lift " + lift, x.ofLift(lift, 4), rides);
            Check.same("2: open runs of lift " + lift, x.ofLift(lift, 5), 2);
            Check.same("2: its second run", x.ofRun(4 + lift, 11), lift == 3 ? 2 * 51 : 2 * (most / 2));
            Check.same("2: its first run", x.ofRun(lift, 11), rides - x.ofRun(4 + lift, 11));
        }
        Check.same("2: rides of all", x.many(12), 2 * 405);
        Check.same("2: none waited", x.many(13), 0);
    }

    /** 'for each multiple of 200 that USED reaches by that, the DEPTH of its top LAYER by then is 1 less'. */
    private static void everyMultipleOf200() {
        int[][] aheadThenWear = {{0, 199, 0}, {0, 200, 1}, {0, 201, 1}, {0, 399, 1}, {0, 400, 2}, {0, 999, 4}};
        for (int[] each : aheadThenWear) {
            wearOf(each[0], each[1], each[2]);
        }
        wearOf(199, 0, 0);
        wearOf(199, 1, 1);
        wearOf(199, 200, 1);
        wearOf(199, 201, 2);
        wearOf(200, 1, 1);
        wearOf(200, 199, 1);
        wearOf(200, 200, 2);
        wearOf(999, 1, 5);
    }

    private static void wearOf(int ahead, int then, int wear) {
        Pistekeeper x = Scene.resort(999, 9, 1);
        Scene.hours(x, 1, 0, 0);
        x.crowd(ahead);
        Scene.hours(x, 1, 0, 0);
        x.crowd(then);
        Scene.hours(x, 1, 0, 0);
        Check.same("2: used " + ahead + " and " + then, x.ofRun(0, 11), ahead + then);
        Check.same("2: worn by " + ahead + " and " + then, x.ofRun(0, 2), 63 - wear);
    }

    /** Each run by its own number: two that share 200 are not worn. */
    private static void wornOne() {
        Pistekeeper x = Scene.resort(999, 9, 2);
        Scene.hours(x, 1, 0, 0);
        x.crowd(399);
        Scene.hours(x, 1, 0, 0);
        Check.same("2: 200 of 399", x.ofRun(0, 2), 62);
        Check.same("2: 199 of 399", x.ofRun(1, 2), 63);
    }

    /** 'its top LAYER by then': what a top layer of 1 does not bear goes to the next one, all of it in one hour. */
    private static void wornThrough() {
        Pistekeeper x = Scene.resort(999, 9, 1);
        Scene.hours(x, 1, 0, 0);
        Scene.hours(x, 1, 0, 1);
        Check.same("2: two layers", x.ofRun(0, 1), 2);
        x.crowd(600);
        Scene.hours(x, 1, 0, 0);
        Check.same("2: the top one is gone", x.ofRun(0, 1), 1);
        Check.same("2: two of three from the next", x.ofRun(0, 2), 61);
    }

    private static void nothingToWear() {
        Pistekeeper x = Scene.resort(999, 1, 1);
        Scene.hours(x, 17, 1, 9);
        Check.same("2: rain took all", x.ofRun(0, 1), 0);
        Check.same("2: it stays open", x.ofRun(0, 6), 1);
        Scene.until(x, 8);
        x.crowd(999);
        Scene.hours(x, 1, 0, 0);
        Check.same("2: used all the same", x.ofRun(0, 11), 999);
        Check.same("2: nothing is worn", x.ofRun(0, 2), 0);
        Check.same("2: one call", x.many(11), 1);
    }

    /** 'if they are more than 40 times its AREA, there is 1 CALL'. */
    private static void moreThan40AnArea() {
        for (int area = 1; area <= 9; area++) {
            Pistekeeper x = Scene.resort(999, area, 1);
            Scene.hours(x, 1, 0, 0);
            x.crowd(40 * area);
            Scene.hours(x, 1, 0, 0);
            Check.same("2: 40 times " + area, x.many(11), 0);
            x.crowd(40 * area + 1);
            Scene.hours(x, 1, 0, 0);
            Check.same("2: 1 more than 40 times " + area, x.many(11), 1);
            x.crowd(999);
            Scene.hours(x, 1, 0, 0);
            Check.same("2: never 2 in an hour, " + area, x.many(11), 2);
        }
        Pistekeeper two = Scene.resort(999, 1, 2);
        Scene.hours(two, 1, 0, 0);
        two.crowd(81);
        Scene.hours(two, 1, 0, 0);
        Check.same("2: 41 and 40", two.many(11), 1);
        two.crowd(82);
        Scene.hours(two, 1, 0, 0);
        Check.same("2: 41 and 41", two.many(11), 3);
    }

    /** An open run of this area, with a crust so deep on top of 63 of snow, at NOW 32. */
    private static Pistekeeper crust(int area, int depth) {
        Pistekeeper x = Scene.resort(999, area, 1);
        Scene.until(x, 4);
        Scene.hours(x, 1, 0, depth + 1);
        Scene.hours(x, 1, 1, 1);
        Scene.hours(x, 1, -3, 0);
        Scene.hours(x, 1, 0, 0);
        Check.same("scene: crust", x.ofLayer(0, 1, 2), CRUST);
        Check.same("scene: its depth", x.ofLayer(0, 1, 0), depth);
        return x;
    }

    /** 'and, whether they are or not, 1 more for each whole 50 of them, if the top LAYER was CRUST'. */
    private static void wholeFifties() {
        int[][] skiersAndCalls = {{0, 0}, {1, 0}, {49, 0}, {50, 1}, {99, 1}, {100, 2}, {360, 7}, {361, 8}, {999, 20}};
        for (int[] each : skiersAndCalls) {
            Pistekeeper x = crust(9, 8);
            x.crowd(each[0]);
            Scene.hours(x, 1, 0, 0);
            Check.same("2: calls of " + each[0] + " on crust", x.many(11), each[1]);
        }
        Pistekeeper both = crust(1, 8);
        both.crowd(50);
        Scene.hours(both, 1, 0, 0);
        Check.same("2: a crowd of 50 on crust", both.many(11), 2);
        Pistekeeper crowd = crust(1, 8);
        crowd.crowd(49);
        Scene.hours(crowd, 1, 0, 0);
        Check.same("2: a crowd of 49 on crust", crowd.many(11), 1);
    }

    /** 'if the top LAYER was CRUST ahead of that', not behind the wear of the same hour. */
    private static void crustAheadOfThat() {
        Pistekeeper x = crust(9, 1);
        x.crowd(200);
        Scene.hours(x, 1, 0, 0);
        Check.same("2: the crust is worn off", x.ofRun(0, 1), 1);
        Check.same("2: it was crust ahead of that", x.many(11), 4);
        Scene.hours(x, 1, 0, 0);
        Check.same("2: it is snow now", x.many(11), 4);
        Pistekeeper below = crust(9, 8);
        Scene.until(below, 8);
        Scene.hours(below, 1, 0, 1);
        Check.same("2: snow on the crust", below.ofRun(0, 1), 3);
        below.crowd(200);
        Scene.hours(below, 1, 0, 0);
        Check.same("2: the snow is worn off", below.ofRun(0, 1), 2);
        Check.same("2: it was snow ahead of that", below.many(11), 0);
        Scene.hours(below, 1, 0, 0);
        Check.same("2: it is crust now", below.many(11), 4);
    }

    /** 'SKIERS that are left at the end WAITED'; 'those that WAITED ever (each HOUR counts)'. */
    private static void waitedEachHour() {
        Pistekeeper x = Scene.resort(100, 9, 1);
        x.crowd(103);
        Scene.hours(x, 1, 0, 0);
        Check.same("2: nobody waits at 8", x.many(13), 0);
        Scene.hours(x, 8, 0, 0);
        Check.same("2: 3 in each of 8 hours", x.many(13), 24);
        Check.same("2: 100 in each of 8 hours", x.many(12), 800);
        Scene.hours(x, 15, 0, 0);
        Check.same("2: nobody waits by night", x.many(13), 24);
    }
}
