/** Promises 23 to 27: what would be. */
public final class WouldTest {
    private static final int LEAST = Integer.MIN_VALUE;
    private static final int MOST = Integer.MAX_VALUE;

    public static void main(String[] args) {
        wrongNumbers();
        promise23();
        promise23Others();
        promise24();
        promise24Others();
        late();
        promise25();
        promise26();
        promise26Anew();
        promise27();
        Check.end("WouldTest");
    }

    private static void hours(Pistekeeper x, int hours, int warmth, int fall) {
        x.pass(hours, warmth, fall, 0, 0, 0);
    }

    private static void wrongNumbers() {
        Pistekeeper x = risky(45, 1);
        int[] noRuns = {LEAST, -1, 1, MOST};
        for (int run : noRuns) {
            Check.index("23: run " + run + ", and wrong hours", () -> x.wouldRisk(run, 0, 0, 0));
            Check.index("24: run " + run + ", and wrong hours", () -> x.wouldMake(run, 0, 0, 0));
        }
        int[][] bad = {
            {LEAST, 0, 0}, {0, 0, 0}, {49, 0, 0}, {MOST, 0, 0}, {1, LEAST, 0}, {1, -21, 0}, {1, 21, 0}, {1, MOST, 0},
            {1, 0, LEAST}, {1, 0, -1}, {1, 0, MOST}
        };
        for (int[] a : bad) {
            String what = java.util.Arrays.toString(a);
            Check.argument("23: " + what, () -> x.wouldRisk(0, a[0], a[1], a[2]));
            Check.argument("24: " + what, () -> x.wouldMake(0, a[0], a[1], a[2]));
        }
        Check.argument("23: a fall of 10", () -> x.wouldRisk(0, 1, 0, 10));
        Check.argument("24: humid 101", () -> x.wouldMake(0, 1, 0, 101));
        Check.same("23: the most", x.wouldRisk(0, 48, 20, 9) >= 0, true);
        Check.same("24: the most", x.wouldMake(0, 48, -20, 100), 0);
    }

    /** Weak snow of 5 with 9 above it, at NOW 3: a risk of 74 with a slope of 45. */
    private static Pistekeeper risky(int slope, int area) {
        Pistekeeper x = new Pistekeeper();
        x.lift(999, 9);
        x.run(0, 0, slope, 0, area);
        x.turn(0, true);
        hours(x, 1, 0, 5);
        hours(x, 1, -12, 0);
        hours(x, 1, 0, 9);
        return x;
    }

    private static void promise23() {
        Pistekeeper x = risky(45, 3);
        long before = x.digest();
        Check.same("23: nothing falls", x.wouldRisk(0, 1, 0, 0), 74);
        Check.same("23: ahead of the slide", x.wouldRisk(0, 1, 0, 9), 150);
        Check.same("23: the greatest of all hours", x.wouldRisk(0, 48, 0, 9), 150);
        Check.same("23: rain takes it", x.wouldRisk(0, 1, 1, 8), 1 * 25 / 6 * 2);
        Check.same("23: all of it", x.wouldRisk(0, 1, 1, 9), 0);
        Check.same("23: rain, the first hour is the greatest", x.wouldRisk(0, 3, 1, 3), 6 * 25 / 6 * 2);
        Check.same("23: what is now does not count", x.ofRun(0, 4), 74);
        Check.same("23: nothing is changed", x.digest(), before);
        Check.same("23: nor the time", x.many(0), 3);
        x.guns(0, 9);
        Check.same("23: too warm for guns at a humid of 100", x.wouldRisk(0, 1, -3, 0), 74);
        Check.same("23: guns", x.wouldRisk(0, 1, -9, 0), (9 + 18) * 25 / 6 * 2);
        Check.same("23: no water is taken by that", x.many(4), 500);
        Pistekeeper flat = risky(24, 3);
        Check.same("23: no risk", flat.wouldRisk(0, 48, 0, 9), 0);
        Pistekeeper held = risky(45, 3);
        held.pass(1, 0, 0, 9, 1, 0);
        held.wouldRisk(0, 5, 0, 0);
        Check.state("23: the latest wind is as it was", () -> held.release(0));
    }

    /** What all else does counts: the guns of a run ahead take the water, and skiers wear the snow. */
    private static void promise23Others() {
        Pistekeeper x = new Pistekeeper();
        x.lift(10, 9);
        x.run(0, 0, 5, 0, 9);
        x.run(0, 0, 45, 0, 1);
        x.guns(0, 9);
        x.pass(8, -9, 0, 0, 0, 100);
        x.guns(0, 0);
        hours(x, 16, 0, 0);
        hours(x, 1, 0, 5);
        hours(x, 1, -12, 0);
        hours(x, 1, 0, 5);
        x.guns(1, 9);
        Check.same("23: water for eight shots", x.many(4), 140);
        Check.same("23: all for this one", x.wouldRisk(1, 1, -9, 0), (5 + 48) * 25 / 6 * 2);
        x.guns(0, 9);
        Check.same("23: the one ahead takes it", x.wouldRisk(1, 1, -9, 0), 5 * 25 / 6 * 2);
        skiersWear();
    }

    private static void skiersWear() {
        Pistekeeper x = new Pistekeeper();
        x.lift(999, 9);
        x.run(0, 0, 45, 0, 9);
        x.turn(0, true);
        hours(x, 4, 0, 9);
        hours(x, 4, 0, 0);
        x.test(0);
        x.sweep(0);
        Check.same("23: it opens", x.open(0), 0);
        hours(x, 2, 0, 9);
        Check.same("23: two layers", x.ofRun(0, 1), 2);
        Check.same("23: at 11 and 12, without skiers", x.wouldRisk(0, 2, 0, 0), 18 * 25 / 22);
        x.crowd(999);
        hours(x, 1, 0, 0);
        Check.same("23: 4 were worn off", x.ofLayer(0, 1, 0), 14);
        Check.same("23: at 12", x.wouldRisk(0, 1, 0, 0), 14 * 25 / 23);
        Check.same("23: worn by 5 more behind it", x.wouldRisk(0, 2, 0, 9), (14 + 9 - 5 + 9) * 25 / 24);
    }

    private static void promise24() {
        Pistekeeper x = new Pistekeeper();
        x.lift(10, 9);
        x.run(0, 0, 5, 0, 4);
        Check.same("24: no guns", x.wouldMake(0, 48, -20, 100), 0);
        x.guns(0, 3);
        long before = x.digest();
        Check.same("24: two hours of 18 by 4", x.wouldMake(0, 2, -9, 100), 9);
        Check.same("24: one hour", x.wouldMake(0, 1, -9, 100), 4);
        Check.same("24: damp of 60 is 4 colder", x.wouldMake(0, 4, -1, 60), 6);
        Check.same("24: too warm", x.wouldMake(0, 48, -3, 100), 0);
        Check.same("24: nothing is changed", x.digest(), before);
        Check.same("24: water", x.many(4), 500);
        x.pass(1, -4, 0, 0, 0, 100);
        Check.same("24: three on the heap", x.ofRun(0, 10), 3);
        Check.same("24: with what is on the heap", x.wouldMake(0, 1, -9, 100), 5);
        Pistekeeper less = risky(45, 1);
        less.guns(0, 1);
        Check.same("24: less by a slide", less.wouldMake(0, 1, -9, 100), -14);
        Check.same("24: a risk below a slide", less.wouldMake(0, 1, -5, 100), 2);
        Check.same("24: it did not slide", less.many(8), 0);
    }

    /** The guns of the others do not count. */
    private static void promise24Others() {
        Pistekeeper x = new Pistekeeper();
        x.lift(10, 9);
        x.run(0, 0, 5, 0, 1);
        x.run(0, 0, 5, 0, 9);
        x.run(0, 0, 5, 0, 1);
        x.guns(0, 9);
        x.guns(1, 9);
        x.guns(2, 9);
        Check.same("24: all the water for one: 80 times 6 by 9", x.wouldMake(1, 48, -9, 100), 53);
        Check.same("24: of its own alone", x.wouldMake(0, 1, -9, 100), 54);
        Check.same("24: 300 at most", x.wouldMake(2, 48, -9, 100), 300);
        Check.same("24: the guns are as they were", x.guns(0, 0), 9);
    }

    private static void late() {
        Pistekeeper x = new Pistekeeper();
        x.lift(10, 9);
        x.run(0, 0, 45, 0, 2);
        x.guns(0, 1);
        for (int times = 0; times < 208; times++) {
            x.pass(48, 0, 0, 0, 0, 100);
        }
        x.pass(15, 0, 0, 0, 0, 100);
        Check.same("23: at 9999", x.wouldRisk(0, 48, 0, 9), 0);
        Check.same("24: at 9999", x.wouldMake(0, 4, -9, 100), 12);
        Check.same("23: it stays 9999", x.many(0), 9999);
    }

    private static void promise25() {
        Pistekeeper x = new Pistekeeper();
        Check.same("25: no runs", x.nextBlast(), -1);
        x.lift(100, 9);
        x.run(0, 0, 45, 0, 2);
        x.run(0, 0, 45, 0, 4);
        x.run(0, 0, 45, 0, 4);
        x.run(0, 0, 25, 0, 9);
        Check.same("25: no snow", x.nextBlast(), -1);
        hours(x, 1, 0, 5);
        hours(x, 1, -12, 0);
        hours(x, 1, 0, 4);
        Check.same("25: a risk of 32", x.nextBlast(), -1);
        hours(x, 1, 0, 1);
        Check.same("25: a risk of 40; the greatest; the smaller number", x.nextBlast(), 1);
        for (int nth = 1; nth <= 6; nth++) {
            x.blast(3);
        }
        Check.same("25: a dud", x.blast(1), -2);
        Check.same("25: not with a dud", x.nextBlast(), 2);
        x.search(1);
        Check.same("25: without it again", x.nextBlast(), 1);
        Check.same("25: its size", x.blast(1), 40);
        Check.same("25: the next", x.nextBlast(), 2);
        Check.same("25: its size, too", x.blast(2), 40);
        Check.same("25: the last", x.nextBlast(), 0);
        Check.same("25: the last one's size", x.blast(0), 20);
        Check.same("25: none", x.nextBlast(), -1);
        openOnes();
    }

    private static void openOnes() {
        Pistekeeper x = new Pistekeeper();
        x.lift(100, 9);
        x.run(0, 0, 45, 0, 1);
        x.run(0, 0, 45, 0, 2);
        x.turn(0, true);
        hours(x, 4, 0, 9);
        hours(x, 1, 0, 0);
        x.test(1);
        x.sweep(1);
        Check.same("25: it opens", x.open(1), 0);
        hours(x, 4, 0, 9);
        Check.same("25: the risk", x.ofRun(1, 4), 45);
        Check.same("25: not an open one", x.nextBlast(), 0);
        x.close(1);
        Check.same("25: a closed one", x.nextBlast(), 1);
    }

    private static void promise26() {
        Pistekeeper x = new Pistekeeper();
        Check.same("26: no runs", x.couldOpen(), 0);
        x.lift(100, 5);
        x.lift(100, 9);
        for (int run = 0; run < 8; run++) {
            x.run(run % 2, 0, 5, 0, 1);
        }
        x.turn(0, true);
        Check.same("26: no snow", x.couldOpen(), 0);
        hours(x, 4, 0, 9);
        Check.same("26: those of lift 0", x.couldOpen(), 1 + 4 + 16 + 64);
        x.turn(1, true);
        Check.same("26: all", x.couldOpen(), 255);
        x.winch(7, true);
        Check.same("26: not a winched one", x.couldOpen(), 127);
        for (int nth = 1; nth <= 7; nth++) {
            x.blast(6);
        }
        Check.same("26: not with a dud", x.couldOpen(), 63);
        x.test(5);
        x.sweep(5);
        Check.same("26: tested and swept", x.couldOpen(), 63);
        x.open(5);
        Check.same("26: not an open one", x.couldOpen(), 31);
        x.pass(1, 0, 0, 6, 1, 0);
        Check.same("26: not with a held lift", x.couldOpen(), 2 + 8);
        Check.same("26: nobody tested", x.ofRun(1, 9), -1);
        Check.same("26: nobody swept", x.ofRun(1, 13), 0);
    }

    /** One that was told little may still open; one that was told much could, if it were tested anew. */
    private static void promise26Anew() {
        Pistekeeper x = new Pistekeeper();
        x.lift(100, 9);
        x.run(0, 0, 45, 0, 1);
        x.run(0, 0, 45, 0, 1);
        x.run(0, 0, 45, 0, 1);
        x.turn(0, true);
        hours(x, 4, 0, 9);
        hours(x, 1, 0, 0);
        x.test(0);
        x.sweep(0);
        x.test(1);
        Check.same("26: all three", x.couldOpen(), 7);
        hours(x, 4, 0, 9);
        Check.same("26: the risk", x.ofRun(0, 4), 45);
        Check.same("26: just the one that may now", x.couldOpen(), 1);
        x.test(0);
        Check.same("26: none that would be told 45", x.couldOpen(), 0);
        x.test(1);
        hours(x, 2, 1, 9);
        hours(x, 1, 1, 0);
        Check.same("26: told too much", x.ofRun(0, 8), 5);
        Check.same("26: anew, they could", x.couldOpen(), 7);
    }

    private static void promise27() {
        Pistekeeper x = new Pistekeeper();
        Check.same("27: a new object", x.digest(), byCalls(x));
        x.lift(120, 6);
        x.lift(60, 4);
        Check.same("27: lifts", x.digest(), byCalls(x));
        x.run(0, 12, 30, 0, 3);
        x.run(0, 8, 22, 2, 4);
        x.run(1, 20, 38, 1, 2);
        x.guns(1, 5);
        x.turn(0, true);
        x.pass(5, -7, 7, 3, 0, 70);
        x.pass(3, -9, 0, 0, 0, 80);
        x.pass(4, -3, 6, 6, 3, 90);
        x.test(1);
        x.sweep(1);
        x.open(1);
        x.crowd(300);
        x.pass(3, 2, 0, 0, 0, 50);
        long due = byCalls(x);
        Check.same("27: all of it", x.digest(), due);
        Check.same("27: once more", x.digest(), due);
        x.crowd(301);
        Check.same("27: another one", x.digest() == due, false);
    }

    private static long byCalls(Pistekeeper x) {
        long d = 58212;
        for (int what = 0; what <= 14; what++) {
            d = 31 * d + x.many(what);
        }
        for (int run = 0; run < x.many(2); run++) {
            for (int what = 0; what <= 13; what++) {
                d = 31 * d + x.ofRun(run, what);
            }
            for (int layer = 0; layer < x.ofRun(run, 1); layer++) {
                d = 31 * d + x.ofLayer(run, layer, 0);
                d = 31 * d + x.ofLayer(run, layer, 1);
                d = 31 * d + x.ofLayer(run, layer, 2);
            }
            d = 31 * d + x.wouldRisk(run, 12, -6, 3);
            d = 31 * d + x.wouldMake(run, 9, -9, 60);
        }
        for (int lift = 0; lift < x.many(1); lift++) {
            for (int what = 0; what <= 5; what++) {
                d = 31 * d + x.ofLift(lift, what);
            }
        }
        return (d * 31 + x.nextBlast()) * 31 + x.couldOpen();
    }
}
