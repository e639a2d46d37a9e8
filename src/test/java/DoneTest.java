/** Promises 10 to 17: what is done. */
public final class DoneTest {
    private static final int[] NO_RUNS = {Integer.MIN_VALUE, -1, 2, Integer.MAX_VALUE};

    public static void main(String[] args) {
        noSuchRun();
        promise10();
        promise10Duds();
        promise11();
        promise12();
        promise12Tells();
        promise13();
        promise14();
        promise15();
        promise15Limits();
        promise16();
        promise16Order();
        promise17();
        Check.end("DoneTest");
    }

    /** A lift that is on, and two runs with 36 of snow, at NOW 4; no risk. */
    private static Pistekeeper snowy(int slope, int area) {
        Pistekeeper x = new Pistekeeper();
        x.lift(100, 6);
        x.run(0, 0, slope, 0, area);
        x.run(0, 0, slope, 0, area);
        x.turn(0, true);
        hours(x, 4, 0, 9);
        return x;
    }

    private static void hours(Pistekeeper x, int hours, int warmth, int fall) {
        x.pass(hours, warmth, fall, 0, 0, 0);
    }

    private static void opened(Pistekeeper x, int run) {
        x.test(run);
        x.sweep(run);
        Check.same("it opens", x.open(run), 0);
    }

    private static void noSuchRun() {
        Pistekeeper x = snowy(5, 1);
        long before = x.digest();
        for (int run : NO_RUNS) {
            Check.index("10: run " + run, () -> x.blast(run));
            Check.index("11: run " + run, () -> x.search(run));
            Check.index("12: run " + run, () -> x.test(run));
            Check.index("13: run " + run, () -> x.sweep(run));
            Check.index("14: run " + run, () -> x.winch(run, true));
            Check.index("15: run " + run, () -> x.groom(run));
            Check.index("16: run " + run, () -> x.open(run));
            Check.index("17: run " + run, () -> x.close(run));
        }
        Check.same("nothing is changed", x.digest(), before);
    }

    /** Weak snow of 5 below so much new snow, at NOW 2 and one for each 9. */
    private static Pistekeeper risky(int slope, int area, int above) {
        Pistekeeper x = new Pistekeeper();
        x.lift(100, 6);
        x.run(0, 0, slope, 0, area);
        x.turn(0, true);
        hours(x, 1, 0, 5);
        hours(x, 1, -12, 0);
        hours(x, 1, 0, above);
        return x;
    }

    private static void promise10() {
        Pistekeeper x = risky(45, 7, 5);
        Check.same("10: the risk", x.ofRun(0, 4), 40);
        x.test(0);
        x.sweep(0);
        Check.same("10: the size", x.blast(0), 70);
        Check.same("10: none of it lies there", x.ofRun(0, 1), 0);
        Check.same("10: charges", x.many(5), 49);
        Check.same("10: slides", x.many(8), 1);
        Check.same("10: slides of the run", x.ofRun(0, 12), 1);
        Check.same("10: not tested", x.ofRun(0, 9), -1);
        Check.same("10: not swept", x.ofRun(0, 13), 0);
        Check.same("10: nothing to slide", x.blast(0), 0);
        Check.same("10: charges again", x.many(5), 48);
        Check.same("10: slides still", x.many(8), 1);
        Pistekeeper least = risky(43, 7, 5);
        Check.same("10: a risk of 38", least.ofRun(0, 4), 38);
        least.sweep(0);
        Check.same("10: it stays", least.blast(0), 0);
        Check.same("10: two layers", least.ofRun(0, 1), 2);
        Check.same("10: swept still", least.ofRun(0, 13), 1);
        Check.same("10: a charge for it", least.many(5), 49);
        Pistekeeper open = snowy(5, 1);
        opened(open, 1);
        Check.state("10: an open one", () -> open.blast(1));
        Check.same("10: no charge for it", open.many(5), 50);
        Check.same("10: the other one", open.blast(0), 0);
        reaching();
    }

    private static void reaching() {
        Pistekeeper x = new Pistekeeper();
        x.lift(100, 6);
        x.run(0, 0, 45, 0, 9);
        hours(x, 4, 0, 9);
        hours(x, 1, 0, 0);
        hours(x, 7, 0, 9);
        Check.same("10: a risk of 63 above 22", x.ofRun(0, 4), 68);
        Check.same("10: below a size of 900", x.blast(0), 891);
        Check.same("10: it does not reach the road", x.many(9), 0);
        Pistekeeper more = new Pistekeeper();
        more.lift(100, 6);
        more.run(0, 0, 45, 0, 9);
        hours(more, 4, 0, 9);
        hours(more, 1, 0, 1);
        hours(more, 1, 0, 0);
        hours(more, 7, 0, 9);
        Check.same("10: a size of 900", more.blast(0), 900);
        Check.same("10: it reaches the road", more.many(9), 1);
        reachingByOne();
    }

    /** Three layers, two of them of 300, all of which slide, with a size of 899, and of 900. */
    private static void reachingByOne() {
        for (int last = 2; last <= 3; last++) {
            Pistekeeper x = new Pistekeeper();
            x.lift(100, 6);
            x.run(0, 0, 28, 0, 1);
            for (int layer = 0; layer < 2; layer++) {
                hours(x, 34, 0, 9);
                hours(x, 1, 0, 0);
            }
            hours(x, 33, 0, 9);
            hours(x, 1, 0, last);
            Check.same("10: a risk of 599 or 600 above 100", x.ofRun(0, 4), 47);
            Check.same("10: its size", x.blast(0), 897 + last);
            Check.same("10: it reaches the road with 900", x.many(9), last - 2);
        }
    }

    private static void promise10Duds() {
        Pistekeeper x = snowy(5, 1);
        for (int nth = 1; nth <= 50; nth++) {
            int run = nth % 2;
            Check.same("10: blast " + nth, x.blast(run), nth % 7 == 0 ? -2 : 0);
        }
        Check.same("10: duds of run 0: 14, 28, 42", x.ofRun(0, 7), 3);
        Check.same("10: duds of run 1: 7, 21, 35, 49", x.ofRun(1, 7), 4);
        Check.same("10: charges", x.many(5), 0);
        Check.state("10: no charges", () -> x.blast(0));
        Check.index("10: no charges, and no run", () -> x.blast(2));
        Pistekeeper late = new Pistekeeper();
        late.lift(100, 6);
        late.run(0, 0, 5, 0, 1);
        late.run(0, 0, 45, 0, 1);
        hours(late, 1, 0, 5);
        hours(late, 1, -12, 0);
        hours(late, 1, 0, 9);
        for (int nth = 1; nth <= 6; nth++) {
            late.blast(0);
        }
        Check.same("10: a dud makes no slide", late.blast(1), -2);
        Check.same("10: all lies there", late.ofRun(1, 1), 2);
        Check.same("10: the next one does", late.blast(1), 14);
    }

    private static void promise11() {
        Pistekeeper x = snowy(5, 1);
        Check.state("11: none", () -> x.search(0));
        for (int nth = 1; nth <= 14; nth++) {
            x.blast(1);
        }
        Check.same("11: one is left", x.search(1), 1);
        Check.same("11: it says so", x.ofRun(1, 7), 1);
        Check.state("11: none on the other run", () -> x.search(0));
        Check.same("11: none is left", x.search(1), 0);
        Check.state("11: no more", () -> x.search(1));
        opened(x, 1);
        Check.state("11: none on an open one", () -> x.search(1));
    }

    private static void promise12() {
        Pistekeeper x = snowy(5, 1);
        Check.same("12: not tested", x.ofRun(1, 9), -1);
        Check.same("12: what it tells", x.test(1), 1);
        Check.same("12: it was told", x.ofRun(1, 9), 1);
        Check.same("12: the other one was not", x.ofRun(0, 9), -1);
        hours(x, 12, 0, 0);
        Check.same("12: tested for 12 hours", x.ofRun(1, 9), 1);
        hours(x, 1, 0, 0);
        Check.same("12: not in the 13th", x.ofRun(1, 9), -1);
        Check.same("12: anew", x.test(1), 3);
        hours(x, 6, 0, 0);
        Check.same("12: anew, while it is tested", x.test(1), 0);
        hours(x, 12, 0, 0);
        Check.same("12: for 12 hours again", x.ofRun(1, 9), 0);
        hours(x, 1, 0, 0);
        Check.same("12: no longer", x.ofRun(1, 9), -1);
    }

    private static void promise12Tells() {
        Pistekeeper x = new Pistekeeper();
        x.lift(100, 6);
        for (int run = 0; run < 8; run++) {
            x.run(0, 0, 45, 0, 1);
        }
        int[] atZero = {0, 0, 2, 0, 0, 2, 0, 0};
        for (int run = 0; run < 8; run++) {
            Check.same("12: at 0, run " + run, x.test(run), atZero[run]);
        }
        hours(x, 1, 0, 5);
        int[] atOne = {1, 4, 0, 1, 4, 0, 1, 4};
        for (int run = 0; run < 8; run++) {
            Check.same("12: at 1, run " + run, x.test(run), atOne[run]);
        }
        hours(x, 1, -12, 0);
        hours(x, 1, 0, 9);
        int[] atThree = {74 + 2, 74 - 4, 74 - 1, 74 + 2, 74 - 4, 74 - 1, 74 + 2, 74 - 4};
        for (int run = 0; run < 8; run++) {
            Check.same("12: at 3, run " + run, x.test(run), atThree[run]);
        }
    }

    private static void promise13() {
        Pistekeeper x = snowy(5, 1);
        Check.same("13: it was not", x.sweep(0), true);
        Check.same("13: it is", x.ofRun(0, 13), 1);
        Check.same("13: it was", x.sweep(0), false);
        Check.same("13: the other one is not", x.ofRun(1, 13), 0);
        x.test(0);
        x.open(0);
        Check.state("13: an open one", () -> x.sweep(0));
        hours(x, 48, 0, 0);
        Check.same("13: it stays so", x.ofRun(0, 13), 1);
        x.close(0);
        Check.same("13: until it is closed", x.ofRun(0, 13), 0);
        Check.same("13: it was not, again", x.sweep(0), true);
    }

    private static void promise14() {
        Pistekeeper x = snowy(5, 1);
        Check.same("14: it was not", x.winch(0, false), false);
        Check.same("14: it was not yet", x.winch(0, true), false);
        Check.same("14: it was", x.winch(0, true), true);
        Check.same("14: the other one was not", x.winch(1, false), false);
        x.test(0);
        x.sweep(0);
        Check.same("14: it bars", x.open(0), 3);
        Check.same("14: it was, too", x.winch(0, false), true);
        Check.same("14: it does not bar", x.open(0), 0);
        Check.state("14: an open one", () -> x.winch(0, true));
        x.close(0);
        Check.same("14: nothing was changed", x.winch(0, false), false);
    }

    private static void promise15() {
        Pistekeeper x = snowy(5, 1);
        Check.state("15: one layer", () -> x.groom(0));
        hours(x, 1, 0, 0);
        hours(x, 1, 0, 7);
        hours(x, 1, 1, 1);
        Check.same("15: wet", x.ofRun(0, 3), 1);
        Check.state("15: at 7", () -> x.groom(0));
        hours(x, 10, 0, 0);
        Check.state("15: at 17", () -> x.groom(0));
        Check.same("15: no fuel for it", x.many(6), 100);
        hours(x, 1, 0, 0);
        Check.same("15: at 18: 9 tenths of 42", x.groom(0), 37);
        Check.same("15: one layer now", x.ofRun(0, 1), 1);
        Check.same("15: its depth", x.ofLayer(0, 0, 0), 37);
        Check.same("15: 28 and 10 hard", x.ofLayer(0, 0, 1), 38);
        Check.same("15: made", x.ofLayer(0, 0, 2), 3);
        Check.same("15: not wet", x.ofRun(0, 3), 0);
        Check.same("15: the other run is as it was", x.ofRun(1, 1), 2);
        Check.same("15: the other run is wet", x.ofRun(1, 3), 1);
        Check.same("15: fuel", x.many(6), 95);
        hours(x, 12, 0, 0);
        Check.same("15: at 6", x.groom(1), 37);
        Pistekeeper open = snowy(5, 1);
        hours(open, 1, 0, 0);
        hours(open, 1, 0, 7);
        opened(open, 0);
        Check.state("15: an open one", () -> open.groom(0));
        Check.same("15: at 6, too", open.groom(1), 38);
        Pistekeeper upper = risky(5, 1, 9);
        hours(upper, 1, 0, 0);
        hours(upper, 1, 0, 5);
        Check.same("15: three layers", upper.ofRun(0, 1), 3);
        Check.same("15: the two top ones", upper.groom(0), 12);
        Check.same("15: two layers", upper.ofRun(0, 1), 2);
        Check.same("15: the weak one is left", upper.ofLayer(0, 0, 2), 1);
        Check.same("15: the greater is the lower one's", upper.ofLayer(0, 1, 1), 23);
    }

    private static void promise15Limits() {
        Pistekeeper x = new Pistekeeper();
        x.lift(100, 6);
        x.run(0, 0, 5, 0, 1);
        hours(x, 34, 0, 9);
        hours(x, 48, 0, 0);
        hours(x, 48, 0, 0);
        hours(x, 34, 0, 9);
        Check.same("15: the clock", x.many(0) % 24, 20);
        Check.same("15: 300 at most", x.groom(0), 300);
        Check.same("15: 100 hard at most", x.ofLayer(0, 0, 1), 100);
        Check.same("15: of those above", x.ofRun(0, 2), 300);
        Pistekeeper fuel = new Pistekeeper();
        fuel.lift(100, 6);
        fuel.run(0, 0, 5, 0, 1);
        fuel.run(0, 0, 5, 0, 1);
        hours(fuel, 17, 0, 1);
        hours(fuel, 1, 0, 0);
        int groomed = 0;
        while (groomed < 20) {
            hours(fuel, 1, 0, 1);
            hours(fuel, 1, 0, 0);
            int clock = fuel.many(0) % 24;
            if (clock >= 18 || clock <= 6) {
                fuel.groom(0);
                groomed++;
            }
        }
        Check.same("15: no fuel is left", fuel.many(6), 0);
        hours(fuel, 1, 0, 1);
        while (fuel.many(0) % 24 != 0) {
            hours(fuel, 1, 0, 0);
        }
        int layers = fuel.ofRun(0, 1);
        Check.same("15: layers enough", layers >= 2, true);
        Check.state("15: without fuel", () -> fuel.groom(0));
        Check.same("15: nothing is changed", fuel.ofRun(0, 1), layers);
    }

    private static void promise16() {
        Pistekeeper x = snowy(5, 1);
        x.test(1);
        Check.same("16: not swept", x.open(1), 7);
        Check.same("16: it stays closed", x.ofRun(1, 6), 0);
        x.sweep(1);
        Check.same("16: it opens", x.open(1), 0);
        Check.same("16: it is open", x.ofRun(1, 6), 1);
        Check.same("16: one is", x.many(3), 1);
        Check.same("16: of the lift", x.ofLift(0, 5), 1);
        Check.same("16: the other one is not", x.ofRun(0, 6), 0);
        Check.state("16: it is open already", () -> x.open(1));
        x.turn(0, false);
        hours(x, 20, 5, 9);
        Check.same("16: whatever bars it", x.ofRun(1, 6), 1);
        Check.same("16: what bars it", x.ofRun(1, 8), 1);
        Check.same("16: nothing lies there", x.ofRun(1, 1), 0);
        Check.state("16: still open", () -> x.open(1));
    }

    private static void promise16Order() {
        Pistekeeper x = new Pistekeeper();
        x.lift(100, 3);
        x.run(0, 0, 45, 0, 1);
        x.winch(0, true);
        for (int nth = 1; nth <= 7; nth++) {
            x.blast(0);
        }
        Check.same("16: 1 the lift is not on", x.open(0), 1);
        x.turn(0, true);
        x.pass(1, 0, 0, 4, 1, 0);
        Check.same("16: 1 the lift is held", x.open(0), 1);
        x.pass(1, 0, 0, 0, 0, 0);
        x.release(0);
        Check.same("16: 2 there are duds", x.open(0), 2);
        x.search(0);
        Check.same("16: 3 it is winched", x.open(0), 3);
        x.winch(0, false);
        Check.same("16: 4 it is not tested", x.open(0), 4);
        hours(x, 1, 0, 5);
        hours(x, 1, -12, 0);
        hours(x, 1, 0, 4);
        Check.same("16: the risk", x.ofRun(0, 4), 32);
        Check.same("16: what was told", x.test(0), 32 + 25 % 9 - 4);
        Check.same("16: 5 above 30", x.open(0), 5);
        Check.same("16: 32 is blasted at 0", x.blast(0), 0);
        hours(x, 2, 1, 2);
        Check.same("16: what was told, later", x.test(0), 4);
        Check.same("16: 6 it is not deep", x.open(0), 6);
        Pistekeeper deep = new Pistekeeper();
        deep.lift(100, 3);
        deep.run(0, 0, 5, 0, 1);
        deep.turn(0, true);
        hours(deep, 3, 0, 9);
        hours(deep, 1, 0, 2);
        deep.test(0);
        deep.sweep(0);
        Check.same("16: 29 is not enough", deep.open(0), 6);
        hours(deep, 1, 0, 1);
        Check.same("16: 30 is", deep.open(0), 0);
        told30();
    }

    /** What is told is 30 at one hour, and 31 at another. */
    private static void told30() {
        boolean told30Seen = false;
        boolean told31Seen = false;
        for (int above = 1; above <= 9; above++) {
            for (int rest = 0; rest < 9; rest++) {
                Pistekeeper x = new Pistekeeper();
                x.lift(100, 3);
                x.run(0, 0, 45, 0, 1);
                x.turn(0, true);
                hours(x, 4, 0, 9);
                hours(x, 1 + rest, 0, 0);
                hours(x, 1, 0, 9);
                hours(x, 1, 0, 9);
                hours(x, 1, 0, above);
                int told = x.test(0);
                x.sweep(0);
                Check.same("16: told " + told, x.open(0), told > 30 ? 5 : 0);
                told30Seen |= told == 30;
                told31Seen |= told == 31;
            }
        }
        Check.same("16: 30 was told", told30Seen, true);
        Check.same("16: 31 was told", told31Seen, true);
    }

    private static void promise17() {
        Pistekeeper x = snowy(5, 1);
        Check.state("17: not open", () -> x.close(0));
        opened(x, 0);
        Check.same("17: at once", x.close(0), 0);
        Check.state("17: not open any more", () -> x.close(0));
        opened(x, 0);
        opened(x, 1);
        hours(x, 7, 0, 0);
        Check.same("17: 7 hours", x.close(0), 7);
        Check.same("17: closed", x.ofRun(0, 6), 0);
        Check.same("17: the other one is open", x.ofRun(1, 6), 1);
        opened(x, 0);
        hours(x, 3, 0, 0);
        Check.same("17: 3 hours since it was opened anew", x.close(0), 3);
        Check.same("17: 10 hours", x.close(1), 10);
        Check.same("17: none is open", x.many(3), 0);
    }
}
