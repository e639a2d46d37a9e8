/** The edges of section 3 of the terms: to BLAST, SEARCH, TEST, SWEEP, OPEN, close, GROOM. */
public final class DeedEdgeTest {
    private static final int MADE = 3;

    public static void main(String[] args) {
        blastAt40();
        blastOfNone();
        everySeventh();
        seventhOfARisk();
        dudsOneByOne();
        tellsAtLeastNone();
        tellsByTheHour();
        testedFor12Hours();
        testedAnew();
        testedWhileOpen();
        sweptUntilClosed();
        sweptUntilASlide();
        barOfLift();
        barOfDuds();
        barOfWinch();
        barOfTest();
        barOfTold();
        barOfDepth();
        barOfSweep();
        firstBarIsTold();
        openOneStaysSo();
        openFor();
        nineTenths();
        groomedHardness();
        groomedOnTop();
        groomedWet();
        waterIsFull();
        Check.end("DeedEdgeTest");
    }

    /** 'makes a SLIDE, if RISK is 40 or more': 25 * 25 by 16 is 39, 26 * 25 by 16 is 40. */
    private static void blastAt40() {
        Pistekeeper below = Scene.loaded(45, 2, 7);
        Check.same("3: a risk of 39", below.ofRun(0, 4), 39);
        below.sweep(0);
        below.test(0);
        Check.same("3: no slide", below.blast(0), 0);
        Check.same("3: all lies there", below.ofRun(0, 2), 5 + 25);
        Check.same("3: no slide is counted", below.many(8), 0);
        Check.same("3: swept still", below.ofRun(0, 13), 1);
        Check.same("3: tested still", below.ofRun(0, 9) >= 0, true);
        Check.same("3: it took a charge", below.many(5), 49);
        Pistekeeper x = Scene.loaded(45, 2, 8);
        Check.same("3: a risk of 40", x.ofRun(0, 4), 40);
        x.sweep(0);
        x.test(0);
        Check.same("3: a slide", x.blast(0), 5 + 26);
        Check.same("3: nothing lies there", x.ofRun(0, 1), 0);
        Check.same("3: the slide is counted", x.many(8), 1);
        Check.same("3: of the run, too", x.ofRun(0, 12), 1);
        Check.same("3: not swept", x.ofRun(0, 13), 0);
        Check.same("3: not tested", x.ofRun(0, 9), -1);
        Check.same("3: it took one charge, too", x.many(5), 49);
        Check.same("3: a blast is no accident", x.many(10), 0);
    }

    private static void blastOfNone() {
        Pistekeeper x = Scene.oneRun(45, 0, 9);
        Check.same("3: without layers", x.blast(0), 0);
        Check.same("3: it took a charge", x.many(5), 49);
        Check.same("3: no slide", x.many(8), 0);
    }

    /** 'Each seventh one ever (on all RUNS) is a DUD'; 'CHARGES (50 at first)'. */
    private static void everySeventh() {
        Pistekeeper x = Scene.flat();
        x.run(0, 0, 5, 0, 1);
        for (int nth = 1; nth <= 50; nth++) {
            int run = nth % 3 == 0 ? 1 : 0;
            Check.same("3: charges ahead of " + nth, x.many(5), 51 - nth);
            Check.same("3: blast " + nth, x.blast(run), nth % 7 == 0 ? -2 : 0);
        }
        Check.same("3: no charges are left", x.many(5), 0);
        Check.state("3: the 51st", () -> x.blast(0));
        Check.same("3: those of 21 and 42", x.ofRun(1, 7), 2);
        Check.same("3: those of 7, 14, 28, 35 and 49", x.ofRun(0, 7), 5);
    }

    /** 'and lies there. Another one makes a SLIDE': a dud makes none, whatever the risk is. */
    private static void seventhOfARisk() {
        Pistekeeper x = Scene.loaded(45, 2, 8);
        x.run(0, 0, 5, 0, 1);
        for (int nth = 1; nth <= 6; nth++) {
            x.blast(1);
        }
        x.sweep(0);
        Check.same("3: the seventh", x.blast(0), -2);
        Check.same("3: it lies there", x.ofRun(0, 7), 1);
        Check.same("3: not on the other one", x.ofRun(1, 7), 0);
        Check.same("3: the snow lies there, too", x.ofRun(0, 2), 31);
        Check.same("3: it is swept still", x.ofRun(0, 13), 1);
        Check.same("3: it took a charge", x.many(5), 43);
        Check.same("3: the eighth", x.blast(0), 31);
        Check.same("3: the dud lies there still", x.ofRun(0, 7), 1);
    }

    /** 'To SEARCH finds one DUD.' */
    private static void dudsOneByOne() {
        Pistekeeper x = Scene.flat();
        for (int nth = 1; nth <= 21; nth++) {
            x.blast(0);
        }
        for (int left = 2; left >= 0; left--) {
            Check.same("3: one is found", x.search(0), left);
            Check.same("3: so many are left", x.ofRun(0, 7), left);
        }
        Check.state("3: none is left", () -> x.search(0));
        Check.same("3: no charge comes back", x.many(5), 29);
    }

    /** 'together (0 at least)': what is told of no risk is 0 where the rest is below. */
    private static void tellsAtLeastNone() {
        int[] dueByNow = {0, 1, 0, 2, 0, 3, 0, 4, 0, 0, 1};
        Pistekeeper x = Scene.flat();
        for (int now = 0; now < dueByNow.length; now++) {
            Check.same("3: told at " + now, x.test(0), dueByNow[now]);
            Check.same("3: it was told at " + now, x.ofRun(0, 9), dueByNow[now]);
            Scene.hours(x, 1, 0, 0);
        }
    }

    /** '(5 times NOW, and 3 times its number) modulo 9, less 4': at a risk of 40 and of 39, and in the last hour. */
    private static void tellsByTheHour() {
        Pistekeeper x = Scene.loaded(45, 2, 7);
        Check.same("3: now", x.many(0), 5);
        Check.same("3: 39, and 25 modulo 9, less 4", x.test(0), 39 + 7 - 4);
        Scene.hours(x, 1, 0, 0);
        Check.same("3: 625 by 17 is 36, and 30 modulo 9, less 4", x.test(0), 36 + 3 - 4);
        Pistekeeper full = Scene.full();
        for (int run = 0; run < 4; run++) {
            Check.same("3: at 4, run " + run, full.test(run), Math.max(0, (20 + 3 * run) % 9 - 4));
        }
        Pistekeeper late = Scene.late(9999);
        Check.same("3: at 9999, run 0", late.test(0), Math.max(0, (5 * 9999) % 9 - 4));
        Check.same("3: at 9999, it was told", late.ofRun(0, 9), Math.max(0, (5 * 9999) % 9 - 4));
    }

    /** 'TESTED for the next 12 HOURS (up to NOW and 12)'. */
    private static void testedFor12Hours() {
        Pistekeeper x = Scene.flat();
        Check.same("3: at first", x.ofRun(0, 9), -1);
        x.test(0);
        Check.same("3: at once", x.ofRun(0, 9), 0);
        Scene.hours(x, 11, 0, 0);
        Check.same("3: 11 hours later", x.ofRun(0, 9), 0);
        Scene.hours(x, 1, 0, 0);
        Check.same("3: 12 hours later", x.ofRun(0, 9), 0);
        Scene.hours(x, 1, 0, 0);
        Check.same("3: 13 hours later", x.ofRun(0, 9), -1);
        Scene.hours(x, 48, 0, 0);
        Check.same("3: never again", x.ofRun(0, 9), -1);
    }

    private static void testedAnew() {
        Pistekeeper x = Scene.flat();
        x.test(0);
        Scene.hours(x, 7, 0, 0);
        Check.same("3: anew", x.test(0), 4);
        Scene.hours(x, 12, 0, 0);
        Check.same("3: 12 hours from then", x.ofRun(0, 9), 4);
        Scene.hours(x, 1, 0, 0);
        Check.same("3: no longer", x.ofRun(0, 9), -1);
    }

    private static void testedWhileOpen() {
        Pistekeeper x = Scene.resort(100, 1, 1);
        Scene.hours(x, 13, 0, 0);
        Check.same("3: not tested any more", x.ofRun(0, 8), 4);
        Check.same("3: an open one may be tested", x.test(0), (5 * 20) % 9 > 4 ? (5 * 20) % 9 - 4 : 0);
        Check.same("3: nothing bars it", x.ofRun(0, 8), 0);
        Check.same("3: it is open still", x.ofRun(0, 6), 1);
    }

    /** 'it is SWEPT, until it is closed the next time'. */
    private static void sweptUntilClosed() {
        Pistekeeper x = Scene.flat();
        Check.same("3: not at first", x.ofRun(0, 13), 0);
        Check.same("3: it was not", x.sweep(0), true);
        Check.same("3: it was", x.sweep(0), false);
        Scene.hours(x, 4, 0, 9);
        x.test(0);
        Check.same("3: it opens", x.open(0), 0);
        Scene.hours(x, 48, 0, 0);
        Check.same("3: swept while it is open", x.ofRun(0, 13), 1);
        x.close(0);
        Check.same("3: not as it is closed", x.ofRun(0, 13), 0);
        Check.same("3: anew", x.sweep(0), true);
    }

    /** 'or there is a SLIDE', by an hour or by a blast. */
    private static void sweptUntilASlide() {
        Pistekeeper x = Scene.loaded(45, 10, 0);
        x.sweep(0);
        x.test(0);
        Scene.hours(x, 1, 0, 5);
        Check.same("3: no slide, swept", x.ofRun(0, 13), 1);
        Check.same("3: no slide, tested", x.ofRun(0, 9) >= 0, true);
        Check.same("3: a slide", Scene.hours(x, 1, 0, 9), 1);
        Check.same("3: a slide, not swept", x.ofRun(0, 13), 0);
        Check.same("3: a slide, not tested", x.ofRun(0, 9), -1);
    }

    /** A run of a lift with a limit of 3, deep enough, at NOW 4, tested and swept: nothing bars it. */
    private static Pistekeeper ready() {
        Pistekeeper x = new Pistekeeper();
        x.lift(100, 3);
        x.lift(100, 3);
        x.turn(0, true);
        x.run(0, 0, 24, 0, 1);
        Scene.hours(x, 4, 0, 9);
        x.test(0);
        x.sweep(0);
        Check.same("scene: ready", x.ofRun(0, 8), 0);
        return x;
    }

    private static void barred(String what, Pistekeeper x, int due) {
        Check.same(what + ": what bars it", x.ofRun(0, 8), due);
        Check.same(what + ": it opens, or not", x.open(0), due);
        Check.same(what + ": it is open, or not", x.ofRun(0, 6), due == 0 ? 1 : 0);
        Check.same(what + ": so many are", x.many(3), due == 0 ? 1 : 0);
    }

    /** '1 its LIFT is not ON, or HELD'; another LIFT does not count. */
    private static void barOfLift() {
        Pistekeeper off = ready();
        off.turn(0, false);
        off.turn(1, true);
        barred("3: not on", off, 1);
        off.turn(0, true);
        off.turn(1, false);
        barred("3: on", off, 0);
        Pistekeeper held = ready();
        held.pass(1, 0, 0, 4, 1, 100);
        barred("3: held", held, 1);
        held.pass(1, 0, 0, 1, 1, 100);
        held.release(0);
        barred("3: released", held, 0);
    }

    /** '2 there are DUDS'. */
    private static void barOfDuds() {
        Pistekeeper x = ready();
        for (int nth = 1; nth <= 14; nth++) {
            x.blast(0);
        }
        barred("3: two duds", x, 2);
        x.search(0);
        barred("3: one dud", x, 2);
        x.search(0);
        barred("3: no dud", x, 0);
    }

    /** '3 it is WINCHED'. */
    private static void barOfWinch() {
        Pistekeeper x = ready();
        Check.same("3: it was not winched", x.winch(0, true), false);
        barred("3: winched", x, 3);
        Check.same("3: it was winched", x.winch(0, false), true);
        barred("3: not winched", x, 0);
    }

    /** '4 it is not TESTED': 12 hours later it still is, 13 hours later not. */
    private static void barOfTest() {
        Pistekeeper x = ready();
        Scene.hours(x, 12, 0, 0);
        barred("3: 12 hours later", x, 0);
        Pistekeeper late = ready();
        Scene.hours(late, 13, 0, 0);
        barred("3: 13 hours later", late, 4);
        late.test(0);
        barred("3: tested anew", late, 0);
    }

    /** '5 what was TOLD is above 30', told at NOW 7: the risk and 4. */
    private static void barOfTold() {
        int[][] slopeRiskTold = {{38, 25, 29}, {39, 26, 30}, {40, 27, 31}, {45, 34, 38}};
        for (int[] each : slopeRiskTold) {
            Pistekeeper x = Scene.oneRun(each[0], 0, 1);
            Scene.hours(x, 3, 0, 9);
            Scene.hours(x, 1, 0, 0);
            Scene.hours(x, 2, 0, 9);
            Scene.hours(x, 1, 0, 7);
            Check.same("3: 25 above 17 hard, slope " + each[0], x.ofRun(0, 4), each[1]);
            Check.same("3: told, slope " + each[0], x.test(0), each[2]);
            x.sweep(0);
            barred("3: told " + each[2], x, each[2] > 30 ? 5 : 0);
        }
    }

    /** '6 its LAYERS have a DEPTH of less than 30 together'. */
    private static void barOfDepth() {
        int[][] lastAndBar = {{1, 6}, {2, 6}, {3, 0}, {4, 0}};
        for (int[] each : lastAndBar) {
            Pistekeeper x = Scene.flat();
            Scene.hours(x, 2, 0, 9);
            Scene.snow(x, 9);
            Scene.hours(x, 1, 0, each[0]);
            x.test(0);
            x.sweep(0);
            Check.same("3: together", x.ofRun(0, 2), 27 + each[0]);
            barred("3: 27 and " + each[0], x, each[1]);
        }
        Pistekeeper none = Scene.flat();
        none.test(0);
        none.sweep(0);
        barred("3: no layers", none, 6);
    }

    /** '7 it is not SWEPT'. */
    private static void barOfSweep() {
        Pistekeeper x = Scene.flat();
        Scene.hours(x, 4, 0, 9);
        x.test(0);
        barred("3: not swept", x, 7);
        x.sweep(0);
        barred("3: swept", x, 0);
        x.close(0);
        barred("3: closed, and so not swept any more", x, 7);
    }

    /** 'the first of these bars it': all of them at once, and then one less each time. */
    private static void firstBarIsTold() {
        Pistekeeper x = new Pistekeeper();
        x.lift(100, 9);
        x.run(0, 0, 45, 0, 1);
        for (int nth = 1; nth <= 7; nth++) {
            x.blast(0);
        }
        x.winch(0, true);
        Scene.hours(x, 1, 0, 9);
        Scene.hours(x, 1, -12, 0);
        Scene.hours(x, 1, 0, 4);
        barred("3: all", x, 1);
        x.turn(0, true);
        barred("3: all but the lift", x, 2);
        x.search(0);
        barred("3: all but duds", x, 3);
        x.winch(0, false);
        barred("3: all but the winch", x, 4);
        Check.same("3: told of a risk of 32", x.test(0), 2 * (4 * 25 / 6) + 15 % 9 - 4);
        barred("3: all but the test", x, 5);
        Scene.hours(x, 2, 1, 9);
        x.test(0);
        barred("3: all but what was told", x, 6);
        Scene.hours(x, 4, 0, 9);
        barred("3: all but the depth", x, 7);
        x.sweep(0);
        barred("3: none", x, 0);
    }

    /** 'An OPEN one stays so, whatever bars it by then, but by a SLIDE.' */
    private static void openOneStaysSo() {
        Pistekeeper x = ready();
        Check.same("3: it opens", x.open(0), 0);
        x.turn(0, false);
        stillOpen("3: off", x, 1);
        x.turn(0, true);
        x.pass(1, 0, 0, 4, 1, 100);
        stillOpen("3: held", x, 1);
        x.pass(1, 0, 0, 0, 1, 100);
        x.release(0);
        Scene.hours(x, 11, 0, 0);
        stillOpen("3: not tested", x, 4);
        x.test(0);
        Scene.hours(x, 1, 1, 7);
        stillOpen("3: 29 deep", x, 6);
        Scene.hours(x, 9, 1, 9);
        stillOpen("3: without layers", x, 6);
        Pistekeeper told = Scene.oneRun(45, 0, 1);
        Scene.snow(told, 36);
        Scene.hours(told, 1, 0, 0);
        Scene.open(told, 0);
        Scene.hours(told, 12, 0, 9);
        Check.same("3: told 96 and more, or less", told.test(0) > 90, true);
        stillOpen("3: told too much", told, 5);
        Scene.hours(told, 1, 0, 9);
        Check.same("3: but by a slide", told.ofRun(0, 6), 0);
    }

    private static void stillOpen(String what, Pistekeeper x, int bar) {
        Check.same(what + ": what bars it", x.ofRun(0, 8), bar);
        Check.same(what + ": it is open", x.ofRun(0, 6), 1);
        Check.same(what + ": it is counted", x.many(3), 1);
    }

    /** 'Returns for how many HOURS it was OPEN.' */
    private static void openFor() {
        Pistekeeper x = ready();
        x.open(0);
        Check.same("17: none", x.close(0), 0);
        x.sweep(0);
        x.open(0);
        Scene.hours(x, 1, 0, 0);
        Check.same("17: one, from the latest time", x.close(0), 1);
        x.sweep(0);
        x.open(0);
        for (int times = 0; times < 3; times++) {
            Scene.hours(x, 48, 0, 0);
        }
        Check.same("17: over days", x.close(0), 144);
        Pistekeeper late = Scene.late(9999);
        Check.same("17: from 7 up to 9999", late.close(0), 9999 - 7);
    }

    /** Two layers of such depths, at a clock of night. */
    private static Pistekeeper two(int lower, int upper) {
        Pistekeeper x = Scene.flat();
        Scene.snow(x, lower);
        Scene.snow(x, upper);
        Scene.until(x, 0);
        Check.same("scene: two", x.ofRun(0, 1), 2);
        return x;
    }

    /** '9 tenths of their DEPTH together, and that is 300 at most'. */
    private static void nineTenths() {
        int[][] lowerUpperDue = {
            {1, 1, 1}, {1, 2, 2}, {5, 5, 9}, {5, 6, 9}, {9, 10, 17}, {33, 300, 299}, {34, 300, 300}, {35, 300, 300},
            {300, 300, 300}
        };
        for (int[] each : lowerUpperDue) {
            Pistekeeper x = two(each[0], each[1]);
            Check.same("15: of " + each[0] + " and " + each[1], x.groom(0), each[2]);
            Check.same("15: it lies there", x.ofLayer(0, 0, 0), each[2]);
            Check.same("15: alone", x.ofRun(0, 1), 1);
            Check.same("15: made", x.ofLayer(0, 0, 2), MADE);
            Check.same("15: fuel", x.many(6), 95);
        }
    }

    /** 'the greater HARDNESS and 10 (100 at most)'. */
    private static void groomedHardness() {
        int[][] hardnessAndDue = {{89, 99}, {90, 100}, {91, 100}};
        for (int[] each : hardnessAndDue) {
            Pistekeeper x = Scene.flat();
            // Snow at this hour is so hard at 97, a clock of 1.
            int laidAt = 97 - (each[0] - 10) + 1;
            Scene.hours(x, laidAt - 1, 0, 0);
            Scene.hours(x, 1, 0, 9);
            Scene.hours(x, 48, 0, 0);
            Scene.hours(x, 96 - x.many(0), 0, 0);
            Scene.hours(x, 1, 0, 9);
            Check.same("15: so hard", x.ofLayer(0, 0, 1), each[0]);
            x.groom(0);
            Check.same("15: of " + each[0], x.ofLayer(0, 0, 1), each[1]);
        }
        Pistekeeper upper = Scene.flat();
        Scene.hours(upper, 1, 0, 9);
        Scene.hours(upper, 1, 0, 0);
        upper.guns(0, 1);
        Scene.hours(upper, 1, -9, 0);
        Check.same("15: the upper one is harder", upper.ofLayer(0, 1, 1), 40);
        upper.groom(0);
        Check.same("15: the upper one's", upper.ofLayer(0, 0, 1), 50);
    }

    /** 'the two top LAYERS become one': those below are as they were. */
    private static void groomedOnTop() {
        Pistekeeper x = Scene.flat();
        for (int layer = 1; layer <= 8; layer++) {
            Scene.snow(x, layer);
        }
        Scene.until(x, 20);
        Check.same("15: of 7 and 8", x.groom(0), 13);
        Check.same("15: seven are left", x.ofRun(0, 1), 7);
        for (int layer = 0; layer < 6; layer++) {
            Check.same("15: the depth of " + layer, x.ofLayer(0, layer, 0), layer + 1);
            Check.same("15: the kind of " + layer, x.ofLayer(0, layer, 2), 0);
        }
        Check.same("15: of 6 and 13", x.groom(0), 17);
        Check.same("15: fuel for two", x.many(6), 90);
    }

    /** 'it is not WET'. */
    private static void groomedWet() {
        Pistekeeper x = two(9, 9);
        Scene.hours(x, 1, 1, 1);
        Check.same("15: wet", x.ofRun(0, 3), 1);
        x.groom(0);
        Check.same("15: not wet", x.ofRun(0, 3), 0);
        Scene.hours(x, 1, -3, 0);
        Check.same("15: no crust", x.ofLayer(0, 0, 2), MADE);
    }

    /** 'WATER (500 at first) is more, 5000 at most'. */
    private static void waterIsFull() {
        int[][] muchAndDue = {{1, 501}, {4499, 4999}, {4500, 5000}, {4501, 5000}, {5000, 5000}};
        for (int[] each : muchAndDue) {
            Pistekeeper x = new Pistekeeper();
            Check.same("7: " + each[0] + " more", x.fill(each[0]), each[1]);
            Check.same("7: so much is there", x.many(4), each[1]);
        }
        Pistekeeper full = new Pistekeeper();
        full.fill(5000);
        Check.same("7: on a full lake", full.fill(1), 5000);
    }
}
