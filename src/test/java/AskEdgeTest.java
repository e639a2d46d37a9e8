import java.math.BigInteger;
import java.util.ArrayList;
import java.util.List;

/** The edges of promise 1, and of promises 18 to 27: what is asked, and what would be. */
public final class AskEdgeTest {
    public static void main(String[] args) {
        newObject();
        newRun();
        newLift();
        noneOfARun();
        meanOfNone();
        meanIsNotCut();
        riskIsAheadOfTheSlide();
        riskIsNotThatOfNow();
        riskBehindASlide();
        riskBeyond9999();
        riskWithoutWindAndDamp();
        riskGoesOnFromNow();
        riskByHeightAndAspect();
        riskWhileSkiersRide();
        makeWithoutGuns();
        makeWithoutWater();
        makeUpTo300();
        makeLess();
        makeOfTheHeap();
        makeBeyond9999();
        makeWhileOthersHaveGuns();
        makeWhileTheSunMelts();
        blastNext();
        blastNextBySize();
        openNone();
        openAll();
        openByDepth();
        openByWhatWouldBeTold();
        openAsItIsNow();
        digestOfANewObject();
        digestWraps();
        Check.end("AskEdgeTest");
    }

    private static void newObject() {
        Pistekeeper x = new Pistekeeper();
        int[] due = {0, 0, 0, 0, 500, 50, 100, 0, 0, 0, 0, 0, 0, 0, 0};
        for (int what = 0; what <= 14; what++) {
            Check.same("1: many(" + what + ")", x.many(what), due[what]);
        }
        Check.same("1: nextBlast", x.nextBlast(), -1);
        Check.same("1: couldOpen", x.couldOpen(), 0);
        Check.same("1: hours without any run", x.pass(48, -20, 9, 9, 3, 0), 0);
        Check.same("1: now", x.many(0), 48);
    }

    private static void newRun() {
        Pistekeeper x = Scene.flat();
        int[] due = {0, 0, 0, 0, 0, -1, 0, 0, 4, -1, 0, 0, 0, 0};
        for (int what = 0; what <= 13; what++) {
            Check.same("18: ofRun(0, " + what + ") of a new one", x.ofRun(0, what), due[what]);
        }
        Check.same("14: not winched", x.winch(0, false), false);
        Check.same("6: no guns", x.guns(0, 0), 0);
    }

    private static void newLift() {
        Pistekeeper x = new Pistekeeper();
        x.lift(10, 3);
        int[] due = {10, 3, 0, 0, 0, 0};
        for (int what = 0; what <= 5; what++) {
            Check.same("20: ofLift(0, " + what + ") of a new one", x.ofLift(0, what), due[what]);
        }
        Check.same("5: not held", x.release(0), false);
    }

    /** '(NONE with a RISK of 0)', '(NONE, if it is not TESTED)', and 0 where that is the answer. */
    private static void noneOfARun() {
        Pistekeeper x = Scene.loaded(45, 1, 0);
        Check.same("18: a shear at the ground", x.ofRun(0, 5), 0);
        Check.same("18: nothing was told", x.ofRun(0, 9), -1);
        x.test(0);
        x.blast(0);
        Check.same("18: told", x.ofRun(0, 9) >= 0, true);
        Scene.hours(x, 3, 1, 9);
        Check.same("18: no risk, no shear", x.ofRun(0, 5), -1);
        x.test(0);
        Check.same("18: 0 was told", x.ofRun(0, 9), 0);
    }

    /** '0 without any'. */
    private static void meanOfNone() {
        Pistekeeper x = new Pistekeeper();
        Check.sameDouble("22: without runs", x.meanDepth(), 0.0);
        x.lift(10, 3);
        Check.sameDouble("22: with a lift alone", x.meanDepth(), 0.0);
        x.run(0, 0, 5, 0, 9);
        Check.sameDouble("22: without snow", x.meanDepth(), 0.0);
        Scene.hours(x, 1, 0, 1);
        Check.sameDouble("22: with the least", x.meanDepth(), 1.0);
        Pistekeeper small = Scene.flat();
        Scene.hours(small, 1, 0, 7);
        Check.sameDouble("22: the least area", small.meanDepth(), 7.0);
        Pistekeeper all = Scene.allOpen();
        Check.sameDouble("22: eight runs", all.meanDepth(), 72.0);
    }

    /** 'each by its AREA, not cut'. */
    private static void meanIsNotCut() {
        Pistekeeper x = Scene.flat();
        Scene.hours(x, 1, 0, 1);
        x.run(0, 0, 5, 0, 9);
        Check.sameDouble("22: 1 by 10", x.meanDepth(), 0.1);
        Scene.hours(x, 1, 0, 5);
        Check.sameDouble("22: 6 and 9 times 5, by 10", x.meanDepth(), 5.1);
        x.run(0, 0, 5, 0, 1);
        Check.sameDouble("22: 51 by 11", x.meanDepth(), 51.0 / 11.0);
    }

    /** 'at (9) of one of these, ahead of a SLIDE by it': 99, 100, and more are told alike. */
    private static void riskIsAheadOfTheSlide() {
        Check.same("23: 99", Scene.loaded(44, 10, 0).wouldRisk(0, 1, 0, 9), 99);
        Check.same("23: 98", Scene.loaded(45, 10, 0).wouldRisk(0, 1, 0, 5), 98);
        Check.same("23: 100 slides", Scene.loaded(45, 10, 0).wouldRisk(0, 1, 0, 6), 100);
        Check.same("23: 103 slides", Scene.loaded(45, 10, 0).wouldRisk(0, 1, 0, 9), 103);
        Pistekeeper x = Scene.loaded(45, 10, 0);
        Check.same("23: of two, the first is the greatest", x.wouldRisk(0, 2, 0, 9), 103);
        Check.same("23: there was no slide", x.many(8), 0);
        Check.same("23: nor any snow", x.ofRun(0, 2), 95);
    }

    private static void riskIsNotThatOfNow() {
        Pistekeeper x = Scene.loaded(45, 3, 0);
        Check.same("23: now", x.ofRun(0, 4), 27 * 25 / 16);
        Check.same("23: in an hour", x.wouldRisk(0, 1, 0, 0), 27 * 25 / 17);
        Check.same("23: in 48 hours, the first", x.wouldRisk(0, 48, 0, 0), 27 * 25 / 17);
        Pistekeeper bare = Scene.oneRun(45, 0, 1);
        Check.same("23: without layers", bare.wouldRisk(0, 48, 0, 0), 0);
        Check.same("23: one layer alone", bare.wouldRisk(0, 48, 0, 9), 0);
        Check.same("23: no risk with a slope of 24", Scene.loaded(24, 3, 0).wouldRisk(0, 48, 0, 9), 0);
    }

    /** Behind a slide the hours go on: what falls then lies on the ground. */
    private static void riskBehindASlide() {
        Pistekeeper x = Scene.loaded(45, 10, 0);
        for (int hours = 1; hours <= 48; hours++) {
            Check.same("23: in " + hours + " hours", x.wouldRisk(0, hours, 0, 9), 103);
        }
        Check.same("23: once more", x.wouldRisk(0, 1, 0, 9), 103);
    }

    /** 'NOW may be above 9999 in it'. */
    private static void riskBeyond9999() {
        Pistekeeper x = Scene.late(9999);
        Check.same("23: 9999", x.many(0), 9999);
        Check.same("23: of a flat one", x.wouldRisk(0, 48, 0, 9), 0);
        Check.same("23: of a steep one", x.wouldRisk(2, 48, 0, 9) > 0, true);
        Check.same("23: 9999 still", x.many(0), 9999);
    }

    /** 'without WIND, and with a HUMID of 100', whatever the latest hour had. */
    private static void riskWithoutWindAndDamp() {
        Pistekeeper x = Scene.oneRun(45, 0, 1);
        Scene.hours(x, 1, 0, 5);
        Scene.hours(x, 1, 0, 0);
        x.pass(1, 0, 9, 9, 2, 0);
        Check.same("23: the wind made it deeper", x.ofRun(0, 2), 5 + 9 + 5);
        Check.same("23: no wind", x.wouldRisk(0, 1, 0, 0), 14 * 25 / 15);
        x.guns(0, 9);
        Check.same("23: -3 is too warm at 100", x.wouldRisk(0, 1, -3, 0), 14 * 25 / 15);
        Check.same("23: -4 is not", x.wouldRisk(0, 1, -4, 0), (14 + 9) * 25 / 15);
    }

    /** Whether it snowed in the hour ahead, and whether it is WET, counts in the first of these hours. */
    private static void riskGoesOnFromNow() {
        Pistekeeper x = Scene.oneRun(45, 0, 1);
        Scene.hours(x, 1, 0, 9);
        Check.same("23: the layer is deeper", x.wouldRisk(0, 1, 0, 9), 0);
        Scene.hours(x, 1, 0, 0);
        Check.same("23: there is a new layer", x.wouldRisk(0, 1, 0, 9), 9 * 25 / 14);
        Pistekeeper wet = Scene.oneRun(45, 0, 1);
        Scene.hours(wet, 1, 0, 9);
        Scene.hours(wet, 1, 1, 1);
        wet.guns(0, 9);
        Check.same("23: wet snow is a crust then", wet.wouldRisk(0, 1, -12, 0), 54 * 25 / 81);
        Pistekeeper dry = Scene.oneRun(45, 0, 1);
        Scene.hours(dry, 1, 0, 9);
        dry.guns(0, 9);
        Check.same("23: dry snow is weak then", dry.wouldRisk(0, 1, -12, 0), 2 * (54 * 25 / 6));
    }

    /** What was told of the run goes on, too: its height makes frost and guns work, its aspect lets the sun in. */
    private static void riskByHeightAndAspect() {
        Pistekeeper high = new Pistekeeper();
        high.lift(10, 9);
        high.run(0, 24, 45, 0, 1);
        Scene.hours(high, 1, 0, 5);
        high.guns(0, 3);
        Check.same("23: 0 less 12 is frost", high.wouldRisk(0, 1, 0, 0), 2 * (18 * 25 / 6));
        Check.same("23: 1 less 12 is none", high.wouldRisk(0, 1, 1, 0), 18 * 25 / 13);
        Pistekeeper south = Scene.oneRun(45, 2, 1);
        Scene.hours(south, 6, 0, 0);
        Scene.hours(south, 1, 0, 5);
        Scene.hours(south, 1, 0, 0);
        Scene.hours(south, 1, 0, 9);
        Check.same("23: the sun takes 1 of 9", south.wouldRisk(0, 1, 0, 0), 8 * 25 / 15);
    }

    /** An open run of the second lift, with 9 of snow on 36, at NOW 8. */
    private static Pistekeeper skied() {
        Pistekeeper x = new Pistekeeper();
        x.lift(999, 5);
        x.lift(999, 5);
        x.turn(1, true);
        x.run(1, 0, 45, 0, 9);
        Scene.hours(x, 2, 0, 0);
        Scene.hours(x, 4, 0, 9);
        Scene.hours(x, 1, 0, 0);
        Scene.open(x, 0);
        Scene.hours(x, 1, 0, 9);
        return x;
    }

    /** 'if all else went on': skiers wear what lies above, if the lift takes them. */
    private static void riskWhileSkiersRide() {
        Pistekeeper x = skied();
        x.crowd(999);
        Check.same("23: worn by 4 in the first hour", x.wouldRisk(0, 2, 0, 9), (27 - 4) * 25 / 19);
        Check.same("23: nobody rode", x.ofRun(0, 11), 0);
        x.turn(1, false);
        Check.same("23: not, if it is off", x.wouldRisk(0, 2, 0, 9), 27 * 25 / 19);
        Pistekeeper used = skied();
        used.crowd(199);
        Scene.hours(used, 1, 0, 9);
        used.crowd(1);
        Check.same("23: 199, and the 200th", used.wouldRisk(0, 2, 0, 9), (36 - 1) * 25 / 20);
        Pistekeeper held = skied();
        held.pass(1, 0, 9, 6, 1, 100);
        held.crowd(999);
        Check.same("23: not, if it is held", held.wouldRisk(0, 2, 0, 9), 36 * 25 / 20);
    }

    private static void makeWithoutGuns() {
        Pistekeeper x = Scene.flat();
        Check.same("24: no guns", x.wouldMake(0, 48, -20, 0), 0);
        x.guns(0, 1);
        Check.same("24: one", x.wouldMake(0, 1, -20, 0), 6);
        Check.same("24: too warm", x.wouldMake(0, 48, -3, 100), 0);
    }

    /** 100 of WATER are not taken: nothing can be made of them. */
    private static void makeWithoutWater() {
        Pistekeeper x = Scene.flat();
        x.guns(0, 8);
        Check.same("24: all of 500: 80 times 1", x.wouldMake(0, 48, -4, 100), 80);
        Scene.hours(x, 10, -4, 0);
        Check.same("24: 100 are left", x.many(4), 100);
        Check.same("24: none of 100", x.wouldMake(0, 48, -4, 100), 0);
        x.fill(4);
        Check.same("24: none of 104", x.wouldMake(0, 48, -4, 100), 0);
        x.fill(1);
        Check.same("24: one of 105", x.wouldMake(0, 48, -4, 100), 1);
        Check.same("24: it was not taken", x.many(4), 105);
    }

    private static void makeUpTo300() {
        Pistekeeper x = Scene.flat();
        x.fill(5000);
        x.guns(0, 9);
        Check.same("24: 5 hours of 54", x.wouldMake(0, 5, -9, 100), 270);
        Check.same("24: 300 at most", x.wouldMake(0, 6, -9, 100), 300);
        Check.same("24: 300 at most in 48", x.wouldMake(0, 48, -9, 100), 300);
        Scene.hours(x, 6, -9, 0);
        Check.same("24: on what is full", x.wouldMake(0, 48, -9, 100), 0);
    }

    /** '(below 0: less)': with its guns it slides, without them it does not. */
    private static void makeLess() {
        Pistekeeper x = Scene.loaded(45, 10, 0);
        x.guns(0, 1);
        Check.same("24: 5 more", x.wouldMake(0, 1, -8, 100), 5);
        Check.same("24: 6 more would slide", x.wouldMake(0, 1, -9, 100), -95);
        Check.same("24: it did not", x.many(8), 0);
    }

    /** What lies on the HEAP is there with guns and without them. */
    private static void makeOfTheHeap() {
        Pistekeeper x = Scene.oneRun(24, 0, 9);
        x.guns(0, 8);
        Scene.hours(x, 1, -4, 0);
        Check.same("24: the heap", x.ofRun(0, 10), 8);
        x.guns(0, 1);
        Check.same("24: 9 by 9", x.wouldMake(0, 1, -4, 100), 1);
        x.guns(0, 0);
        Check.same("24: 8 by 9", x.wouldMake(0, 1, -4, 100), 0);
        Check.same("24: the heap is as it was", x.ofRun(0, 10), 8);
    }

    private static void makeBeyond9999() {
        Pistekeeper x = Scene.late(9999);
        x.fill(5000);
        x.guns(3, 9);
        int top = x.ofRun(3, 1) - 1;
        Check.same("24: something was made", x.ofLayer(3, top, 2), 3);
        Check.same("24: at 9999, up to 300", x.wouldMake(3, 48, -9, 100), 300 - x.ofLayer(3, top, 0));
        Check.same("24: 9999 still", x.many(0), 9999);
    }

    /** 'if no other RUN had GUNS': one that comes first would take all the water, but does not. */
    private static void makeWhileOthersHaveGuns() {
        Pistekeeper x = Scene.flat();
        x.run(0, 0, 5, 0, 1);
        x.guns(0, 9);
        Scene.hours(x, 8, -4, 0);
        x.guns(1, 9);
        Check.same("24: water", x.many(4), 140);
        Check.same("24: eight of it", x.wouldMake(1, 48, -4, 100), 8);
        Check.same("24: the other one has its guns", x.guns(0, 0), 9);
    }

    /** What the sun takes, it takes with and without guns; the frost of the night, too, makes weak snow of both. */
    private static void makeWhileTheSunMelts() {
        Pistekeeper x = Scene.oneRun(24, 2, 1);
        Scene.snow(x, 18);
        Scene.until(x, 9);
        x.guns(0, 1);
        Check.same("24: 6 more, whatever melts", x.wouldMake(0, 1, -9, 100), 6);
        Check.same("24: 12 more, whatever melts", x.wouldMake(0, 2, -9, 100), 12);
        Pistekeeper night = Scene.oneRun(45, 0, 1);
        Scene.hours(night, 1, 0, 5);
        night.guns(0, 3);
        Check.same("24: 18 on weak snow slide", night.wouldMake(0, 1, -12, 100), -5);
        Check.same("24: 18 on snow that is warmer do not", night.wouldMake(0, 1, -11, 100), 18);
        Pistekeeper all = Scene.allOpen();
        Check.same("24: of eight", all.wouldMake(7, 1, -9, 100), 6);
    }

    /** 'not OPEN, and have no DUDS, and a RISK of 40 or more'; 'NONE without one'. */
    private static void blastNext() {
        Check.same("25: a risk of 39", Scene.loaded(45, 2, 7).nextBlast(), -1);
        Pistekeeper x = Scene.loaded(45, 2, 8);
        Check.same("25: a risk of 40", x.nextBlast(), 0);
        for (int nth = 1; nth <= 6; nth++) {
            x.run(0, 0, 5, 0, 1);
            x.blast(nth);
        }
        Check.same("25: still", x.nextBlast(), 0);
        x.blast(0);
        Check.same("25: with a dud", x.nextBlast(), -1);
        x.search(0);
        Check.same("25: without it", x.nextBlast(), 0);
        x.blast(0);
        Check.same("25: blasted", x.nextBlast(), -1);
        Pistekeeper open = Scene.oneRun(45, 0, 1);
        Scene.snow(open, 36);
        Scene.hours(open, 1, 0, 0);
        Scene.open(open, 0);
        Scene.hours(open, 5, 0, 9);
        Check.same("25: the risk of an open one", open.ofRun(0, 4) >= 40, true);
        Check.same("25: an open one", open.nextBlast(), -1);
        open.close(0);
        Check.same("25: a closed one", open.nextBlast(), 0);
    }

    /** 'the greatest SIZE now; of several the smallest number'. */
    private static void blastNextBySize() {
        Pistekeeper x = new Pistekeeper();
        x.lift(10, 9);
        int[] areas = {2, 3, 3, 1};
        for (int area : areas) {
            x.run(0, 0, 45, 0, area);
        }
        Scene.hours(x, 1, 0, 5);
        Scene.hours(x, 1, 0, 0);
        Scene.hours(x, 3, 0, 9);
        int[] due = {1, 2, 0, 3, -1};
        for (int next : due) {
            Check.same("25: the next one", x.nextBlast(), next);
            if (next >= 0) {
                Check.same("25: its size", x.blast(next), 32 * areas[next]);
            }
        }
    }

    private static void openNone() {
        Pistekeeper x = new Pistekeeper();
        Check.same("26: without runs", x.couldOpen(), 0);
        x.lift(10, 9);
        x.run(0, 0, 5, 0, 1);
        Scene.hours(x, 4, 0, 9);
        Check.same("26: its lift is not on", x.couldOpen(), 0);
        x.turn(0, true);
        Check.same("26: it is on", x.couldOpen(), 1);
        x.winch(0, true);
        Check.same("26: winched", x.couldOpen(), 0);
        x.winch(0, false);
        Scene.open(x, 0);
        Check.same("26: an open one", x.couldOpen(), 0);
        x.close(0);
        Check.same("26: a closed one, neither swept", x.couldOpen(), 1);
        for (int nth = 1; nth <= 7; nth++) {
            x.blast(0);
        }
        Check.same("26: a dud", x.couldOpen(), 0);
    }

    /** 'the sum of 2^k for each': of eight, and of the eighth alone. */
    private static void openAll() {
        Pistekeeper x = new Pistekeeper();
        x.lift(10, 9);
        x.lift(10, 9);
        for (int run = 0; run < 8; run++) {
            x.run(run / 7, 0, 5, 0, 1);
        }
        Scene.hours(x, 4, 0, 9);
        x.turn(1, true);
        Check.same("26: the eighth alone", x.couldOpen(), 128);
        x.turn(0, true);
        Check.same("26: all eight", x.couldOpen(), 255);
    }

    private static void openByDepth() {
        Pistekeeper x = Scene.flat();
        Scene.hours(x, 3, 0, 9);
        Scene.hours(x, 1, 0, 2);
        Check.same("26: 29 deep", x.couldOpen(), 0);
        Scene.hours(x, 1, 0, 1);
        Check.same("26: 30 deep", x.couldOpen(), 1);
    }

    /** 'by what that would TELL': at NOW 7 the risk and 4, 30 for run 0, and 31 for run 1. */
    private static void openByWhatWouldBeTold() {
        int[][] slopeAndSet = {{39, 1}, {40, 0}};
        for (int[] each : slopeAndSet) {
            Pistekeeper x = Scene.oneRun(each[0], 0, 1);
            Scene.hours(x, 3, 0, 9);
            Scene.hours(x, 1, 0, 0);
            Scene.hours(x, 2, 0, 9);
            Scene.hours(x, 1, 0, 7);
            Check.same("26: slope " + each[0], x.couldOpen(), each[1]);
            Check.same("26: nothing was told", x.ofRun(0, 9), -1);
            Check.same("26: it would be told", x.test(0), each[0] == 39 ? 30 : 31);
        }
    }

    /** 'may OPEN now, or would, if they were TESTED now (anew, too ..), and SWEPT'. */
    private static void openAsItIsNow() {
        Pistekeeper x = Scene.oneRun(45, 0, 1);
        Scene.snow(x, 36);
        Scene.hours(x, 1, 0, 0);
        x.test(0);
        Scene.hours(x, 5, 0, 9);
        Check.same("26: it would be told too much", x.couldOpen(), 0);
        x.sweep(0);
        Check.same("26: nothing bars it now", x.ofRun(0, 8), 0);
        Check.same("26: it may open now", x.couldOpen(), 1);
        x.test(0);
        Check.same("26: it was told too much", x.ofRun(0, 8), 5);
        Check.same("26: it may not", x.couldOpen(), 0);
        Scene.hours(x, 5, 1, 9);
        Check.same("26: told too much, but some hours ago", x.ofRun(0, 8), 5);
        Check.same("26: tested anew it would", x.couldOpen(), 1);
        Check.same("26: it was not tested anew", x.ofRun(0, 8), 5);
    }

    /** 'wraps around as a 64-bit integer': by numbers without a bound, cut to 64 bits at the end alone. */
    private static void digestOfANewObject() {
        long[] all = {0, 0, 0, 0, 500, 50, 100, 0, 0, 0, 0, 0, 0, 0, 0, -1, 0};
        BigInteger d = BigInteger.valueOf(58212);
        for (long v : all) {
            d = d.multiply(BigInteger.valueOf(31)).add(BigInteger.valueOf(v));
        }
        Check.same("27: it wraps around", d.bitLength() > 64, true);
        Check.same("27: a new object", new Pistekeeper().digest(), d.longValue());
    }

    private static void digestWraps() {
        wraps("27: without runs", new Pistekeeper());
        wraps("27: without snow", Scene.flat());
        wraps("27: busy", Scene.busy());
        wraps("27: full", Scene.full());
        wraps("27: late", Scene.late(9999));
        wraps("27: all open", Scene.allOpen());
        wraps("27: what would be differs with each degree", frosty());
        Pistekeeper x = Scene.busy();
        Check.same("27: the same again", x.digest(), x.digest());
        Check.same("27: of a twin", x.digest(), Scene.busy().digest());
    }

    /** At a warmth of -9 frost weakens the snow of run 1, but not that of run 0, for which it takes one less. */
    private static Pistekeeper frosty() {
        Pistekeeper x = new Pistekeeper();
        x.lift(10, 9);
        x.run(0, 4, 45, 0, 1);
        x.run(0, 6, 45, 0, 1);
        x.run(0, 0, 24, 0, 1);
        Scene.until(x, 22);
        Scene.hours(x, 1, 0, 5);
        for (int run = 0; run < 3; run++) {
            x.guns(run, 1);
        }
        return x;
    }

    private static void wraps(String what, Pistekeeper x) {
        BigInteger d = BigInteger.valueOf(58212);
        for (long v : numbers(x)) {
            d = d.multiply(BigInteger.valueOf(31)).add(BigInteger.valueOf(v));
        }
        Check.same(what, x.digest(), d.longValue());
    }

    private static List<Long> numbers(Pistekeeper x) {
        List<Long> all = new ArrayList<>();
        for (int what = 0; what <= 14; what++) {
            all.add((long) x.many(what));
        }
        for (int run = 0; run < x.many(2); run++) {
            for (int what = 0; what <= 13; what++) {
                all.add((long) x.ofRun(run, what));
            }
            for (int layer = 0; layer < x.ofRun(run, 1); layer++) {
                for (int what = 0; what <= 2; what++) {
                    all.add((long) x.ofLayer(run, layer, what));
                }
            }
            all.add((long) x.wouldRisk(run, 12, -6, 3));
            all.add((long) x.wouldMake(run, 9, -9, 60));
        }
        for (int lift = 0; lift < x.many(1); lift++) {
            for (int what = 0; what <= 5; what++) {
                all.add((long) x.ofLift(lift, what));
            }
        }
        all.add((long) x.nextBlast());
        all.add((long) x.couldOpen());
        return all;
    }
}
