/** Promises 18 to 22: what is asked. */
public final class AskedTest {
    private static final int LEAST = Integer.MIN_VALUE;
    private static final int MOST = Integer.MAX_VALUE;

    public static void main(String[] args) {
        wrongNumbers();
        promise18();
        promise18Heap();
        promise18Shear();
        promise19();
        promise20();
        promise21();
        promise22();
        Check.end("AskedTest");
    }

    private static void hours(Pistekeeper x, int hours, int warmth, int fall) {
        x.pass(hours, warmth, fall, 0, 0, 0);
    }

    private static void wrongNumbers() {
        Pistekeeper x = new Pistekeeper();
        x.lift(100, 6);
        x.run(0, 0, 5, 0, 1);
        hours(x, 1, 0, 5);
        int[] bad = {LEAST, -1, 1, MOST};
        for (int number : bad) {
            Check.index("18: run " + number + ", and a wrong what", () -> x.ofRun(number, 14));
            Check.index("19: run " + number + ", and a wrong what", () -> x.ofLayer(number, 0, 3));
            Check.index("19: layer " + number + ", and a wrong what", () -> x.ofLayer(0, number, 3));
            Check.index("20: lift " + number + ", and a wrong what", () -> x.ofLift(number, 6));
        }
        int[][] whats = {{LEAST, LEAST, LEAST, LEAST}, {-1, -1, -1, -1}, {14, 3, 6, 15}, {MOST, MOST, MOST, MOST}};
        for (int[] what : whats) {
            Check.argument("18: what " + what[0], () -> x.ofRun(0, what[0]));
            Check.argument("19: what " + what[1], () -> x.ofLayer(0, 0, what[1]));
            Check.argument("20: what " + what[2], () -> x.ofLift(0, what[2]));
            Check.argument("21: what " + what[3], () -> x.many(what[3]));
        }
    }

    private static void ofRun(String when, Pistekeeper x, int run, int... due) {
        for (int what = 0; what < due.length; what++) {
            Check.same("18: " + when + ", ofRun(" + run + ", " + what + ")", x.ofRun(run, what), due[what]);
        }
    }

    private static void promise18() {
        Pistekeeper x = new Pistekeeper();
        x.lift(100, 6);
        x.lift(999, 6);
        x.run(0, 0, 45, 0, 3);
        x.run(1, 0, 45, 0, 7);
        x.turn(1, true);
        hours(x, 1, 0, 5);
        hours(x, 1, -12, 0);
        hours(x, 1, 0, 9);
        ofRun("risky", x, 1, 1, 2, 14, 0, 74, 0, 0, 0, 4, -1, 0, 0, 0, 0);
        x.test(1);
        x.sweep(1);
        ofRun("tested", x, 1, 1, 2, 14, 0, 74, 0, 0, 0, 5, 70, 0, 0, 0, 1);
        x.blast(1);
        ofRun("blasted", x, 1, 1, 0, 0, 0, 0, -1, 0, 0, 4, -1, 0, 0, 1, 0);
        ofRun("the other one", x, 0, 0, 2, 14, 0, 74, 0, 0, 0, 1, -1, 0, 0, 0, 0);
        x.blast(0);
        hours(x, 4, 0, 9);
        x.test(1);
        x.sweep(1);
        Check.same("18: it opens", x.open(1), 0);
        x.crowd(300);
        hours(x, 1, 1, 2);
        ofRun("open, and wet", x, 1, 1, 1, 34, 1, 0, -1, 1, 0, 0, 0, 0, 0, 1, 1);
        hours(x, 1, -3, 0);
        ofRun("skied on, not wet", x, 1, 1, 1, 33, 0, 0, -1, 1, 0, 0, 0, 0, 300, 1, 1);
        x.turn(1, false);
        Check.same("18: an open one is barred", x.ofRun(1, 8), 1);
        for (int nth = 3; nth <= 7; nth++) {
            x.blast(0);
        }
        Check.same("18: duds", x.ofRun(0, 7), 1);
    }

    private static void promise18Heap() {
        Pistekeeper x = new Pistekeeper();
        x.lift(100, 6);
        x.run(0, 0, 5, 0, 9);
        x.guns(0, 2);
        x.pass(1, -7, 0, 0, 0, 100);
        Check.same("18: the heap", x.ofRun(0, 10), 8);
        Check.same("18: not yet on the run", x.ofRun(0, 1), 0);
        x.pass(1, -4, 0, 0, 0, 100);
        Check.same("18: what is left over", x.ofRun(0, 10), 1);
        Check.same("18: on the run", x.ofRun(0, 2), 1);
    }

    /** Of several layers with the same number the lowest one is the shear. */
    private static void promise18Shear() {
        Pistekeeper x = new Pistekeeper();
        x.lift(100, 6);
        x.run(0, 0, 45, 0, 1);
        x.run(0, 0, 25, 0, 1);
        hours(x, 1, 0, 3);
        Check.same("18: one layer has no shear", x.ofRun(0, 5), -1);
        hours(x, 1, 0, 0);
        hours(x, 1, 0, 2);
        Check.same("18: 2 above 12 hard: a risk of 3", x.ofRun(0, 4), 2 * 25 / 14);
        Check.same("18: the shear", x.ofRun(0, 5), 0);
        Check.same("18: a risk of 0", x.ofRun(1, 4), 0);
        Check.same("18: no shear with that", x.ofRun(1, 5), -1);
        hours(x, 1, 0, 0);
        hours(x, 1, 0, 8);
        Check.same("18: 10 above 15 hard, 8 above 13 hard", x.ofRun(0, 4), 15);
        Check.same("18: the greater is below", x.ofRun(0, 5), 0);
        Pistekeeper even = new Pistekeeper();
        even.lift(100, 6);
        even.run(0, 0, 40, 0, 1);
        hours(even, 1, 0, 3);
        hours(even, 1, 0, 0);
        hours(even, 1, 0, 1);
        hours(even, 1, 0, 0);
        hours(even, 1, 0, 6);
        Check.same("18: 7 times 20 by 16, 6 times 20 by 14", even.ofRun(0, 4), 8);
        Check.same("18: both are 8", even.ofRun(0, 5), 0);
        Pistekeeper upper = new Pistekeeper();
        upper.lift(100, 6);
        upper.run(0, 0, 40, 0, 2);
        hours(upper, 1, 0, 9);
        hours(upper, 1, 0, 0);
        hours(upper, 1, 0, 4);
        hours(upper, 1, -12, 0);
        hours(upper, 1, 0, 9);
        Check.same("18: the weak one above", upper.ofRun(0, 5), 1);
        Check.same("18: 9 times 20 by 6, twice", upper.ofRun(0, 4), 60);
        Check.same("18: slides with what is above", upper.blast(0), 26);
        Check.same("18: the one below stays", upper.ofRun(0, 2), 9);
    }

    private static void promise19() {
        Pistekeeper x = new Pistekeeper();
        x.lift(100, 6);
        x.run(0, 0, 5, 0, 1);
        Check.index("19: no layers", () -> x.ofLayer(0, 0, 0));
        hours(x, 1, 0, 7);
        hours(x, 1, -12, 0);
        x.guns(0, 2);
        x.pass(1, -6, 0, 0, 0, 100);
        x.guns(0, 0);
        hours(x, 1, 0, 6);
        hours(x, 1, 1, 1);
        hours(x, 1, -3, 0);
        hours(x, 1, 0, 2);
        int[][] due = {{7, 5, 1}, {6, 44, 3}, {5, 80, 2}, {2, 11, 0}};
        for (int layer = 0; layer < due.length; layer++) {
            for (int what = 0; what < 3; what++) {
                Check.same("19: ofLayer(0, " + layer + ", " + what + ")", x.ofLayer(0, layer, what), due[layer][what]);
            }
        }
        Check.index("19: above all", () -> x.ofLayer(0, 4, 0));
        Check.index("19: another run", () -> x.ofLayer(1, 0, 0));
    }

    private static void promise20() {
        Pistekeeper x = new Pistekeeper();
        x.lift(70, 4);
        x.lift(30, 9);
        x.run(1, 0, 5, 0, 1);
        x.run(1, 0, 5, 0, 1);
        x.run(0, 0, 5, 0, 1);
        x.turn(0, true);
        x.turn(1, true);
        hours(x, 8, 0, 9);
        for (int run = 0; run < 3; run++) {
            x.test(run);
            x.sweep(run);
            x.open(run);
        }
        x.crowd(95);
        hours(x, 2, 0, 0);
        x.pass(1, 0, 0, 5, 1, 0);
        x.turn(1, false);
        int[][] due = {{70, 4, 1, 1, 140, 1}, {30, 9, 0, 0, 80, 2}};
        for (int lift = 0; lift < 2; lift++) {
            for (int what = 0; what < 6; what++) {
                Check.same("20: ofLift(" + lift + ", " + what + ")", x.ofLift(lift, what), due[lift][what]);
            }
        }
    }

    private static void promise21() {
        Pistekeeper x = new Pistekeeper();
        x.lift(999, 9);
        x.lift(10, 9);
        x.run(0, 0, 45, 0, 6);
        x.run(0, 0, 5, 0, 2);
        x.turn(0, true);
        hours(x, 4, 0, 9);
        hours(x, 1, 0, 0);
        x.test(0);
        x.sweep(0);
        x.open(0);
        hours(x, 13, 0, 9);
        Check.same("21: 9 tenths of 36 and 117", x.groom(1), 137);
        x.test(1);
        x.sweep(1);
        x.open(1);
        x.crowd(1100);
        hours(x, 15, 0, 0);
        x.guns(1, 1);
        x.pass(1, -4, 0, 0, 0, 100);
        x.blast(0);
        // Run 0 slid while it was open; run 1 was worn by 4 and by 5 by the 999 of each of two hours.
        int[] due = {34, 2, 2, 1, 495, 49, 95, 1100, 1, 1, 1, 2, 1998, 202, 2 * 128};
        for (int what = 0; what < due.length; what++) {
            Check.same("21: many(" + what + ")", x.many(what), due[what]);
        }
    }

    private static void promise22() {
        Pistekeeper x = new Pistekeeper();
        Check.sameDouble("22: without runs", x.meanDepth(), 0.0);
        x.lift(100, 6);
        Check.sameDouble("22: with a lift", x.meanDepth(), 0.0);
        x.run(0, 0, 5, 0, 2);
        Check.sameDouble("22: without snow", x.meanDepth(), 0.0);
        hours(x, 1, 0, 5);
        Check.sameDouble("22: of one", x.meanDepth(), 5.0);
        x.run(0, 0, 5, 0, 1);
        Check.sameDouble("22: of two, one bare", x.meanDepth(), 10.0 / 3);
        hours(x, 1, 0, 3);
        Check.sameDouble("22: each by its area", x.meanDepth(), 19.0 / 3);
    }
}
