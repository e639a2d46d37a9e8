/** The mountains that the edge tests begin with. */
final class Scene {
    private static final int NOON = 12;

    private Scene() {
    }

    /** Hours without wind, with a damp of 100. */
    static int hours(Pistekeeper x, int hours, int warmth, int fall) {
        return x.pass(hours, warmth, fall, 0, 0, 100);
    }

    /** A lift that is on, and one run of it, at a height of 0. */
    static Pistekeeper oneRun(int slope, int aspect, int area) {
        Pistekeeper x = new Pistekeeper();
        x.lift(999, 9);
        x.turn(0, true);
        x.run(0, 0, slope, aspect, area);
        return x;
    }

    /** A run that never slides, in no sun. */
    static Pistekeeper flat() {
        return oneRun(24, 0, 1);
    }

    /** Snow falls on what lies there; the first fall of it is a new layer, for the hour ahead is dry. */
    static void snow(Pistekeeper x, int depth) {
        hours(x, 1, 0, 0);
        if (depth >= 9) {
            hours(x, depth / 9, 0, 9);
        }
        if (depth % 9 > 0) {
            hours(x, 1, 0, depth % 9);
        }
    }

    /** Dry hours go by, one at least, in which nothing melts in the shade, until the clock shows this. */
    static void until(Pistekeeper x, int clock) {
        int gap = Math.floorMod(clock - x.many(0) - 1, 24) + 1;
        hours(x, gap, 0, 0);
    }

    static void open(Pistekeeper x, int run) {
        x.test(run);
        x.sweep(run);
        Check.same("scene: run " + run + " opens", x.open(run), 0);
    }

    /** Snow of 5, and a dry hour, make it 12 hard; then come so many hours of 9, and one of the last fall. */
    static Pistekeeper loaded(int slope, int hoursOfNine, int last) {
        Pistekeeper x = oneRun(slope, 0, 1);
        hours(x, 1, 0, 5);
        hours(x, 1, 0, 0);
        hours(x, hoursOfNine, 0, 9);
        if (last > 0) {
            hours(x, 1, 0, last);
        }
        return x;
    }

    /** A lift with this capacity and so many open runs of this area, under 63 of snow, at NOW 7. */
    static Pistekeeper resort(int capacity, int area, int runs) {
        Pistekeeper x = new Pistekeeper();
        x.lift(capacity, 5);
        x.turn(0, true);
        for (int run = 0; run < runs; run++) {
            x.run(0, 0, 24, 0, area);
        }
        hours(x, 7, 0, 9);
        for (int run = 0; run < runs; run++) {
            open(x, run);
        }
        return x;
    }

    /**
     * Two lifts, one of them held, and four runs: 0 open, 1 tested and swept, 2 winched, steep and with a dud,
     * 3 with guns; skiers, a heap, wind and snow in the latest hour; at NOW 12.
     */
    static Pistekeeper busy() {
        Pistekeeper x = new Pistekeeper();
        x.lift(100, 6);
        x.lift(50, 5);
        x.turn(0, true);
        x.turn(1, true);
        x.run(0, 0, 5, 0, 2);
        x.run(0, 4, 30, 2, 3);
        x.run(1, 0, 45, 1, 1);
        x.run(0, 6, 24, 3, 4);
        x.guns(1, 2);
        x.guns(3, 5);
        x.crowd(260);
        x.fill(300);
        x.pass(5, -2, 9, 0, 0, 100);
        x.pass(2, -1, 0, 0, 0, 50);
        open(x, 0);
        x.pass(4, -2, 4, 6, 1, 90);
        for (int nth = 1; nth <= 7; nth++) {
            x.blast(2);
        }
        x.pass(1, -1, 2, 4, 0, 100);
        x.test(1);
        x.sweep(1);
        x.winch(2, true);
        Check.same("scene: busy at noon", x.many(0), NOON);
        return x;
    }

    /** All that can be told of lifts and runs is told. */
    static Pistekeeper full() {
        Pistekeeper x = new Pistekeeper();
        for (int lift = 0; lift < 4; lift++) {
            x.lift(100 + lift, 3 + lift);
            x.turn(lift, true);
        }
        for (int run = 0; run < 8; run++) {
            x.run(run % 4, run, 5 + 5 * run, run % 4, 1 + run);
        }
        hours(x, 4, 0, 9);
        return x;
    }

    /** All that there can be: four lifts that are on, and eight open runs with nine guns each, at NOW 8. */
    static Pistekeeper allOpen() {
        Pistekeeper x = new Pistekeeper();
        for (int lift = 0; lift < 4; lift++) {
            x.lift(100 + lift, 9);
            x.turn(lift, true);
        }
        for (int run = 0; run < 8; run++) {
            x.run(run % 4, 0, 24, 0, 9);
            x.guns(run, 9);
        }
        hours(x, 8, 0, 9);
        for (int run = 0; run < 8; run++) {
            open(x, run);
        }
        return x;
    }

    /** As busy, but so late; every object is used for fewer than 300 calls by that. */
    static Pistekeeper late(int now) {
        Pistekeeper x = busy();
        int left = now - x.many(0);
        for (int days = left / 48; days > 0; days--) {
            hours(x, 48, 0, 0);
        }
        if (left % 48 > 0) {
            hours(x, left % 48, 0, 0);
        }
        Check.same("scene: late", x.many(0), now);
        return x;
    }

    /** As busy, but so many charges are used up on run 1, beside the seven on run 2. */
    static Pistekeeper blasted(int times) {
        Pistekeeper x = busy();
        for (int nth = 0; nth < times; nth++) {
            x.blast(1);
        }
        return x;
    }

    /** So many times groomed; at 3 in the morning, with two layers or more, so that just fuel may be missing. */
    static Pistekeeper groomed(int times) {
        Pistekeeper x = flat();
        snow(x, 9);
        for (int nth = 0; nth < times; nth++) {
            until(x, 1);
            hours(x, 1, 0, 2);
            x.groom(0);
        }
        until(x, 1);
        hours(x, 1, 0, 2);
        until(x, 3);
        Check.same("scene: there are two layers", x.ofRun(0, 1), 2);
        return x;
    }
}
