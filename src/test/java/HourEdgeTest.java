/** The edges of section 2 of the terms: what an HOUR does to the snow, (1) to (9), and to the LIFTS. */
public final class HourEdgeTest {
    private static final int SNOW = 0;
    private static final int WEAK = 1;
    private static final int CRUST = 2;
    private static final int MADE = 3;

    public static void main(String[] args) {
        clockWraps();
        heightIsHalved();
        snowAtZero();
        noFall();
        deeperOrNew();
        snowOnAnotherTop();
        snowedThoughBlownAway();
        toldSince();
        rainOnNone();
        rainToTheLast();
        windAbove4();
        everySide();
        windTo300();
        windWithRain();
        windOnOtherKinds();
        windOnWetCrust();
        windAfterSnowfall();
        sunByTheClock();
        sunByAspectOrTemp();
        sunWithFall();
        frostOf3();
        weakByTheClock();
        weakBelowMinus11();
        weakUpTo10();
        weakOfSnowAlone();
        harderByNoon();
        bulbOfMinus4();
        bulbByDamp();
        sixAtMost();
        waterOf105();
        waterRunByRun();
        heapBelowArea();
        madeTo300();
        riskOf100();
        oneSlideAnHour();
        accidentOrNot();
        windAboveLimit();
        Check.end("HourEdgeTest");
    }

    private static int top(Pistekeeper x) {
        return x.ofRun(0, 1) - 1;
    }

    /** A run with 9 of snow, at this clock. */
    private static Pistekeeper nineAt(int aspect, int clock) {
        Pistekeeper x = Scene.oneRun(24, aspect, 1);
        Scene.until(x, 18);
        Scene.hours(x, 1, 0, 9);
        Scene.until(x, clock);
        return x;
    }

    /** 'the CLOCK is NOW modulo 24': 24 is a clock of 0, and the sun of the next day comes at 34. */
    private static void clockWraps() {
        Pistekeeper x = Scene.oneRun(24, 2, 1);
        Scene.until(x, 23);
        Scene.hours(x, 1, -12, 5);
        Lies.layer("1: a new day begins with snow", x, 0, 5, 11, SNOW);
        Check.same("1: now", x.many(0), 24);
        Pistekeeper weak = nineAt(0, 23);
        Scene.hours(weak, 1, -12, 0);
        Check.same("1: at 24 the clock is 0", weak.ofLayer(0, 0, 2), WEAK);
        Scene.hours(x, 9, 0, 0);
        Lies.depth("1: no sun up to 33", x, 5);
        Scene.hours(x, 1, 0, 0);
        Lies.depth("1: sun at 34", x, 4);
    }

    /** 'TEMP is WARMTH less HEIGHT / 2', and 'what is divided is rounded down'. */
    private static void heightIsHalved() {
        int[][] heightAndWarmest = {{0, 0}, {1, 0}, {2, 1}, {3, 1}, {28, 14}, {29, 14}, {30, 15}};
        for (int[] each : heightAndWarmest) {
            for (int more = 0; more <= 1; more++) {
                Pistekeeper x = new Pistekeeper();
                x.lift(10, 3);
                x.run(0, each[0], 5, 0, 1);
                Scene.hours(x, 1, each[1] + more, 2);
                Lies.layers("(1) height " + each[0] + ", warmth " + (each[1] + more), x, 1 - more);
            }
        }
    }

    /** 'With FALL and a TEMP of 0 or less it snows'; 'With FALL and a TEMP above 0 it rains'. */
    private static void snowAtZero() {
        Pistekeeper x = nineAt(0, 20);
        Scene.hours(x, 1, 0, 1);
        Lies.layer("(2) the least fall at 0 is snow", x, 1, 1, 11, SNOW);
        Pistekeeper rain = nineAt(0, 20);
        Scene.hours(rain, 1, 1, 1);
        Lies.layers("(2) the least fall at 1 is rain", rain, 1);
        Lies.depth("(2) the least fall at 1 is rain", rain, 8);
        Lies.wet("(2) the least fall at 1 is rain", rain, true);
    }

    private static void noFall() {
        Pistekeeper x = nineAt(0, 20);
        Scene.hours(x, 1, 0, 0);
        Lies.depth("(2) no fall at 0", x, 9);
        Scene.hours(x, 1, 1, 0);
        Lies.depth("(2) no fall at 1", x, 9);
        Lies.wet("(2) no fall at 1", x, false);
        Pistekeeper none = Scene.flat();
        Scene.hours(none, 1, 0, 0);
        Lies.layers("(2) no fall on none", none, 0);
    }

    /** 'if it snowed there in the HOUR ahead, too, .. its DEPTH is FALL more; otherwise there is a new LAYER'. */
    private static void deeperOrNew() {
        Pistekeeper x = Scene.flat();
        Scene.hours(x, 1, 0, 5);
        Scene.hours(x, 1, 0, 1);
        Lies.layers("(2) behind an hour of snow", x, 1);
        Lies.layer("(2) behind an hour of snow", x, 0, 6, 12, SNOW);
        Scene.hours(x, 1, 0, 0);
        Scene.hours(x, 1, 0, 1);
        Lies.layers("(2) behind a dry hour", x, 2);
        Lies.layer("(2) behind a dry hour", x, 1, 1, 11, SNOW);
        Scene.hours(x, 1, 0, 4);
        Scene.hours(x, 1, 1, 1);
        Lies.wet("(2) rained on", x, true);
        Scene.hours(x, 1, 0, 3);
        Lies.layers("(2) behind an hour of rain", x, 3);
        Lies.wet("(2) 'the RUN is not WET then'", x, false);
        Pistekeeper inOneCall = Scene.flat();
        Scene.hours(inOneCall, 3, 0, 2);
        Lies.layers("(2) in one call", inOneCall, 1);
        Lies.layer("(2) in one call", inOneCall, 0, 6, 13, SNOW);
    }

    /** 'and the top LAYER is SNOW': on what is made in the hour ahead there is a new one, though it snowed then. */
    private static void snowOnAnotherTop() {
        Pistekeeper x = Scene.flat();
        x.guns(0, 1);
        Scene.hours(x, 2, -4, 3);
        Lies.layers("(2) snow, made, snow, made", x, 4);
        Lies.layer("(2) the second snow", x, 2, 3, 11, SNOW);
        Lies.layer("(2) the second that is made", x, 3, 1, 40, MADE);
    }

    /** It snowed in the hour ahead, though the wind took it all: the snow that lies on top now is deeper. */
    private static void snowedThoughBlownAway() {
        Pistekeeper x = nineAt(0, 20);
        x.pass(1, 0, 3, 9, 0, 100);
        Lies.layers("(2) blown away as it fell", x, 1);
        Lies.depth("(2) blown away as it fell", x, 9);
        Scene.hours(x, 1, 0, 2);
        Lies.layers("(2) it snowed in the hour ahead", x, 1);
        Lies.depth("(2) it snowed in the hour ahead", x, 11);
    }

    /** 'not on a RUN that was told since'. */
    private static void toldSince() {
        Pistekeeper x = new Pistekeeper();
        x.lift(10, 9);
        Scene.hours(x, 1, 0, 9);
        x.run(0, 0, 5, 0, 1);
        Scene.hours(x, 1, 0, 4);
        Lies.layers("(2) told since", x, 1);
        Lies.layer("(2) told since", x, 0, 4, 11, SNOW);
        x.run(0, 0, 5, 0, 1);
        Check.same("(2) it has none of the snow ahead", x.ofRun(1, 1), 0);
        Scene.hours(x, 1, 0, 2);
        Check.same("(2) the older one is deeper", x.ofRun(0, 2), 6);
        Check.same("(2) the younger one begins", x.ofRun(1, 2), 2);
        Check.same("(2) the younger one is 10 hard, and 1", x.ofLayer(1, 0, 1), 11);
    }

    /** 'with LAYERS the DEPTH of the top one is FALL less'. */
    private static void rainOnNone() {
        Pistekeeper x = Scene.flat();
        Scene.hours(x, 1, 20, 9);
        Lies.layers("(2) rain on none", x, 0);
        Lies.wet("(2) rain on none", x, false);
        Scene.hours(x, 1, -20, 0);
        Lies.layers("(2) nothing freezes", x, 0);
    }

    /** 'and if there are still some, the RUN is WET'. */
    private static void rainToTheLast() {
        Pistekeeper x = nineAt(0, 20);
        Scene.hours(x, 1, 1, 8);
        Lies.depth("(2) 1 is left", x, 1);
        Lies.wet("(2) 1 is left", x, true);
        Scene.hours(x, 1, 1, 1);
        Lies.layers("(2) none is left", x, 0);
        Lies.wet("(2) none is left", x, false);
        Pistekeeper two = nineAt(0, 20);
        Scene.hours(two, 1, 0, 3);
        Scene.hours(two, 1, 1, 3);
        Lies.layers("(2) the lower one is left", two, 1);
        Lies.depth("(2) the lower one loses nothing", two, 9);
        Lies.wet("(2) the lower one is left", two, true);
    }

    /** 'With a WIND above 4', 'WIND less 4'. */
    private static void windAbove4() {
        int[][] windAndDepth = {{0, 0}, {4, 0}, {5, 1}, {6, 2}, {9, 5}};
        for (int[] each : windAndDepth) {
            Pistekeeper lee = Scene.oneRun(24, 2, 1);
            lee.pass(1, 0, 0, each[0], 0, 100);
            Lies.depth("(3) lee, wind " + each[0], lee, each[1]);
            Lies.layers("(3) lee, wind " + each[0], lee, Math.min(each[1], 1));
            Pistekeeper windward = nineAt(0, 20);
            windward.pass(1, 0, 0, each[0], 0, 100);
            Lies.depth("(3) windward, wind " + each[0], windward, 9 - each[1]);
        }
        Pistekeeper x = Scene.oneRun(24, 2, 1);
        x.pass(1, 0, 0, 5, 0, 100);
        Lies.layer("(3) 'SNOW, HARDNESS 20'", x, 0, 1, 21, SNOW);
    }

    /** 'opposite to FROM (0 and 2, 1 and 3)', 'an ASPECT of FROM', and from aside, of all sides. */
    private static void everySide() {
        int[][] dueByAspectAndFrom = {{7, 9, 11, 9}, {9, 7, 9, 11}, {11, 9, 7, 9}, {9, 11, 9, 7}};
        for (int aspect = 0; aspect <= 3; aspect++) {
            for (int from = 0; from <= 3; from++) {
                Pistekeeper x = nineAt(aspect, 20);
                x.pass(1, 0, 0, 6, from, 100);
                Lies.depth("(3) aspect " + aspect + ", from " + from, x, dueByAspectAndFrom[aspect][from]);
            }
        }
    }

    /** 'WIND less 4 deeper (300 at most)'. */
    private static void windTo300() {
        int[][] windAndDepth = {{5, 299}, {6, 300}, {7, 300}, {9, 300}};
        for (int[] each : windAndDepth) {
            Pistekeeper x = Scene.flat();
            Scene.snow(x, 298);
            x.pass(1, 0, 0, each[0], 2, 100);
            Lies.layers("(3) on 298", x, 1);
            Lies.depth("(3) on 298, wind " + each[0], x, each[1]);
        }
    }

    /** 'and no rain'. */
    private static void windWithRain() {
        Pistekeeper x = nineAt(0, 20);
        x.pass(1, 1, 1, 9, 2, 100);
        Lies.depth("(3) rain, lee", x, 8);
        x.pass(1, 1, 1, 9, 0, 100);
        Lies.depth("(3) rain, windward", x, 7);
        x.pass(1, 1, 0, 9, 2, 100);
        Lies.depth("(3) just warm, lee", x, 12);
        x.pass(1, 0, 1, 9, 0, 100);
        Lies.layers("(3) snow of 1, windward: blown away", x, 1);
        Lies.depth("(3) snow of 1, windward: blown away", x, 12);
        Pistekeeper bare = Scene.flat();
        bare.pass(1, 1, 1, 9, 2, 100);
        Lies.layers("(3) rain on none, lee", bare, 0);
    }

    /** 'the top LAYER, if it is SNOW, ..': nothing is blown off another one, and on it a new one is laid. */
    private static void windOnOtherKinds() {
        Pistekeeper none = Scene.flat();
        none.pass(1, 0, 0, 9, 0, 100);
        Lies.layers("(3) windward, none", none, 0);
        for (int kind = WEAK; kind <= MADE; kind++) {
            Pistekeeper windward = topOf(kind);
            int depth = windward.ofRun(0, 2);
            windward.pass(1, 0, 0, 9, 0, 100);
            Lies.depth("(3) windward, kind " + kind, windward, depth);
            Pistekeeper lee = topOf(kind);
            int layers = lee.ofRun(0, 1);
            lee.pass(1, 0, 0, 5, 2, 100);
            Lies.layers("(3) lee, kind " + kind, lee, layers + 1);
            Lies.layer("(3) lee, kind " + kind, lee, layers, 1, 21, SNOW);
        }
    }

    /** 'otherwise there is a new one on top: SNOW, .., and it is not WET'. */
    private static void windOnWetCrust() {
        Pistekeeper x = topOf(CRUST);
        Scene.hours(x, 1, 1, 1);
        Lies.wet("(3) ahead of the wind", x, true);
        x.pass(1, 0, 0, 4, 2, 100);
        Lies.wet("(3) a wind of 4", x, true);
        x.pass(1, 0, 0, 5, 2, 100);
        Lies.layers("(3) a new one on wet crust", x, 3);
        Lies.wet("(3) a new one on wet crust", x, false);
        Lies.layer("(3) the crust below it", x, 1, 4, 80, CRUST);
    }

    /** A run, the top layer of which is of this kind, and 5 deep. */
    private static Pistekeeper topOf(int kind) {
        Pistekeeper x = nineAt(0, 21);
        if (kind == WEAK) {
            Scene.until(x, 23);
            Scene.hours(x, 1, 0, 5);
            Scene.hours(x, 1, -12, 0);
        } else if (kind == CRUST) {
            Scene.hours(x, 1, 0, 6);
            Scene.hours(x, 1, 1, 1);
            Scene.hours(x, 1, -3, 0);
        } else {
            x.guns(0, 5);
            Scene.hours(x, 1, -4, 0);
            x.guns(0, 0);
        }
        Check.same("scene: top of kind", x.ofLayer(0, top(x), 2), kind);
        Check.same("scene: top of 5", x.ofLayer(0, top(x), 0), 5);
        return x;
    }

    /** 'each time by what there is by then': the wind finds the snow of the same hour. */
    private static void windAfterSnowfall() {
        Pistekeeper x = Scene.flat();
        x.pass(1, 0, 1, 5, 2, 100);
        Lies.layers("(3) on the snow of the hour", x, 1);
        Lies.layer("(3) on the snow of the hour", x, 0, 2, 11, SNOW);
        Pistekeeper off = Scene.flat();
        off.pass(1, 0, 2, 5, 0, 100);
        Lies.depth("(3) off the snow of the hour", off, 1);
        off.pass(1, 0, 1, 6, 0, 100);
        Lies.layers("(3) all of it", off, 0);
    }

    /** 'with a CLOCK of 10 to 15'. */
    private static void sunByTheClock() {
        int[][] clockAndDepth = {{9, 9}, {10, 8}, {15, 8}, {16, 9}, {0, 9}, {23, 9}};
        for (int[] each : clockAndDepth) {
            Pistekeeper x = nineAt(0, Math.floorMod(each[0] - 1, 24));
            Scene.hours(x, 1, 3, 0);
            Lies.depth("(4) at " + each[0], x, each[1]);
            Lies.wet("(4) at " + each[0], x, each[1] == 8);
        }
    }

    /** 'with an ASPECT of 2 or a TEMP above 2'. */
    private static void sunByAspectOrTemp() {
        for (int aspect = 0; aspect <= 3; aspect++) {
            Pistekeeper cool = nineAt(aspect, 9);
            Scene.hours(cool, 1, 2, 0);
            Lies.depth("(4) aspect " + aspect + ", at 2", cool, aspect == 2 ? 8 : 9);
            Pistekeeper warm = nineAt(aspect, 9);
            Scene.hours(warm, 1, 3, 0);
            Lies.depth("(4) aspect " + aspect + ", at 3", warm, 8);
        }
        Pistekeeper cold = nineAt(2, 9);
        Scene.hours(cold, 1, -20, 0);
        Lies.depth("(4) however cold", cold, 8);
        Pistekeeper none = Scene.oneRun(24, 2, 1);
        Scene.until(none, 9);
        Scene.hours(none, 1, 3, 0);
        Lies.layers("(4) 'with LAYERS'", none, 0);
        Lies.wet("(4) 'with LAYERS'", none, false);
    }

    /** 'Without FALL'. */
    private static void sunWithFall() {
        Pistekeeper x = nineAt(2, 9);
        Scene.hours(x, 1, 0, 1);
        Lies.depth("(4) not with snow", x, 10);
        Scene.hours(x, 1, 3, 2);
        Lies.depth("(4) not with rain", x, 9);
    }

    /** 'With a TEMP of -3 or less, if it is WET'. */
    private static void frostOf3() {
        Pistekeeper x = nineAt(0, 20);
        Scene.hours(x, 1, 1, 2);
        Scene.hours(x, 1, -2, 0);
        Lies.wet("(5) at -2", x, true);
        Check.same("(5) at -2", x.ofLayer(0, 0, 2), SNOW);
        Scene.hours(x, 1, -3, 0);
        Lies.wet("(5) at -3", x, false);
        Lies.layer("(5) at -3", x, 0, 7, 80, CRUST);
        Pistekeeper dry = nineAt(0, 20);
        Scene.hours(dry, 1, -20, 0);
        Check.same("(5) not wet", dry.ofLayer(0, 0, 2), SNOW);
        Pistekeeper sun = nineAt(2, 9);
        Scene.hours(sun, 1, -3, 0);
        Lies.layer("(5) by the sun of the same hour", sun, 0, 8, 80, CRUST);
        Pistekeeper last = nineAt(2, 9);
        Scene.hours(last, 1, 1, 8);
        Scene.hours(last, 1, -3, 0);
        Lies.layers("(5) the sun took the last", last, 0);
    }

    /** 'Without FALL, with a CLOCK of 0 to 5'. */
    private static void weakByTheClock() {
        int[][] clockAndKind = {{23, SNOW}, {0, WEAK}, {1, WEAK}, {5, WEAK}, {6, SNOW}, {12, SNOW}};
        for (int[] each : clockAndKind) {
            Pistekeeper x = nineAt(0, Math.floorMod(each[0] - 1, 24));
            Scene.hours(x, 1, -12, 0);
            Check.same("(6) at " + each[0], x.ofLayer(0, 0, 2), each[1]);
        }
        Pistekeeper falls = nineAt(0, 0);
        Scene.hours(falls, 1, -12, 1);
        Check.same("(6) with fall, the lower one", falls.ofLayer(0, 0, 2), SNOW);
        Check.same("(6) with fall, the new one", falls.ofLayer(0, 1, 2), SNOW);
    }

    /** 'a TEMP of -12 or less', by the height, too. */
    private static void weakBelowMinus11() {
        Pistekeeper x = nineAt(0, 0);
        Scene.hours(x, 1, -11, 0);
        Check.same("(6) at -11", x.ofLayer(0, 0, 2), SNOW);
        Scene.hours(x, 1, -12, 0);
        Lies.layer("(6) at -12", x, 0, 9, 5, WEAK);
        Pistekeeper high = new Pistekeeper();
        high.lift(10, 9);
        high.run(0, 30, 5, 0, 1);
        Scene.hours(high, 1, 0, 4);
        Scene.hours(high, 1, 4, 0);
        Check.same("(6) 4 less 15", high.ofLayer(0, 0, 2), SNOW);
        Scene.hours(high, 1, 3, 0);
        Check.same("(6) 3 less 15", high.ofLayer(0, 0, 2), WEAK);
    }

    /** 'SNOW of a DEPTH of 10 or less'. */
    private static void weakUpTo10() {
        int[][] lastAndKind = {{1, WEAK}, {2, SNOW}};
        for (int[] each : lastAndKind) {
            Pistekeeper x = Scene.flat();
            Scene.hours(x, 1, 0, 9);
            Scene.hours(x, 1, 0, each[0]);
            Scene.hours(x, 1, -12, 0);
            Check.same("(6) of a depth of " + (9 + each[0]), x.ofLayer(0, 0, 2), each[1]);
        }
        Pistekeeper least = Scene.flat();
        Scene.hours(least, 1, 0, 1);
        Scene.hours(least, 1, -12, 0);
        Lies.layer("(6) of a depth of 1", least, 0, 1, 5, WEAK);
        Pistekeeper none = Scene.flat();
        Scene.hours(none, 1, -12, 0);
        Lies.layers("(6) of none", none, 0);
    }

    /** 'the top LAYER, if it is SNOW': no crust, nothing made, no lower one, and a weak one no softer again. */
    private static void weakOfSnowAlone() {
        for (int kind = WEAK; kind <= MADE; kind++) {
            Pistekeeper x = topOf(kind);
            Scene.until(x, 0);
            Scene.until(x, 0);
            int hardness = x.ofLayer(0, top(x), 1);
            Scene.hours(x, 1, -12, 0);
            Lies.layer("(6) kind " + kind, x, top(x), 5, kind == MADE ? hardness + 1 : hardness, kind);
            Check.same("(6) the lowest", x.ofLayer(0, 0, 2), SNOW);
        }
    }

    /** 'one that is WEAK just with a CLOCK of 12'; CRUST never. */
    private static void harderByNoon() {
        Pistekeeper weak = topOf(WEAK);
        Scene.until(weak, 11);
        Lies.layer("(7) weak at 11", weak, 1, 5, 5, WEAK);
        Scene.hours(weak, 1, 0, 0);
        Lies.layer("(7) weak at 12", weak, 1, 5, 6, WEAK);
        Scene.hours(weak, 1, 0, 0);
        Lies.layer("(7) weak at 13", weak, 1, 5, 6, WEAK);
        Pistekeeper crust = topOf(CRUST);
        int below = crust.ofLayer(0, 0, 1);
        Scene.hours(crust, 24, 0, 0);
        Lies.layer("(7) crust, a day later", crust, 1, 5, 80, CRUST);
        Lies.layer("(7) the snow below it", crust, 0, 9, below + 24, SNOW);
        Pistekeeper made = topOf(MADE);
        Lies.layer("(7) made, in its first hour", made, 1, 5, 40, MADE);
        Scene.hours(made, 1, 0, 0);
        Lies.layer("(7) made, an hour later", made, 1, 5, 41, MADE);
    }

    /** 'With a BULB of -4 or less', 'puts -3 less BULB'. */
    private static void bulbOfMinus4() {
        int[][] warmthAndMade = {{0, 0}, {-3, 0}, {-4, 1}, {-5, 2}};
        for (int[] each : warmthAndMade) {
            Pistekeeper x = Scene.flat();
            x.guns(0, 1);
            Scene.hours(x, 1, each[0], 0);
            Lies.depth("(8) a bulb of " + each[0], x, each[1]);
            Check.same("(8) water, a bulb of " + each[0], x.many(4), each[1] > 0 ? 495 : 500);
        }
        Pistekeeper none = Scene.flat();
        Scene.hours(none, 1, -20, 0);
        Lies.depth("(8) without guns", none, 0);
        Check.same("(8) water without guns", none.many(4), 500);
    }

    /** 'BULB is TEMP less (100 less HUMID) / 10', rounded down ahead of the minus. */
    private static void bulbByDamp() {
        int[][] humidAndMade = {{100, 1}, {91, 1}, {90, 2}, {81, 2}, {80, 3}, {61, 4}, {60, 5}, {51, 5}, {50, 6}, {0, 6}};
        for (int[] each : humidAndMade) {
            Pistekeeper x = Scene.flat();
            x.guns(0, 1);
            x.pass(1, -4, 0, 0, 0, each[0]);
            Lies.depth("(8) humid " + each[0], x, each[1]);
        }
        int[][] humidWarmthMade = {{1, 5, 1}, {1, 6, 0}, {0, 6, 1}, {0, 7, 0}, {9, 5, 1}, {10, 5, 1}, {11, 5, 0}};
        for (int[] each : humidWarmthMade) {
            Pistekeeper x = Scene.flat();
            x.guns(0, 1);
            x.pass(1, each[1], 0, 0, 0, each[0]);
            Lies.depth("(8) humid " + each[0] + ", warmth " + each[1], x, each[2]);
        }
    }

    /** '6 at most'. */
    private static void sixAtMost() {
        int[][] warmthAndMade = {{-8, 5}, {-9, 6}, {-10, 6}, {-20, 6}};
        for (int[] each : warmthAndMade) {
            Pistekeeper x = Scene.flat();
            x.guns(0, 1);
            Scene.hours(x, 1, each[0], 0);
            Lies.depth("(8) a bulb of " + each[0], x, each[1]);
        }
        Pistekeeper all = Scene.flat();
        all.guns(0, 9);
        Scene.hours(all, 1, -20, 0);
        Lies.depth("(8) nine guns", all, 54);
        Check.same("(8) water for nine guns", all.many(4), 455);
    }

    /** So much water, if that is 100 or more, and no snow. */
    private static Pistekeeper water(int much) {
        Pistekeeper x = Scene.flat();
        x.lift(10, 9);
        x.run(1, 0, 5, 0, 1);
        x.guns(1, 8);
        Scene.hours(x, 10, -4, 0);
        x.guns(1, 0);
        Check.same("scene: drained", x.many(4), 100);
        if (much > 100) {
            x.fill(much - 100);
        }
        return x;
    }

    /** 'takes 5 of WATER, if there are 105 or more by then (one by one)'. */
    private static void waterOf105() {
        int[][] waterLeftMade = {{100, 100, 0}, {104, 104, 0}, {105, 100, 1}, {109, 104, 1}, {110, 100, 2}, {145, 100, 9}};
        for (int[] each : waterLeftMade) {
            Pistekeeper x = water(each[0]);
            x.guns(0, 9);
            Scene.hours(x, 1, -4, 0);
            Check.same("(8) left of " + each[0], x.many(4), each[1]);
            Lies.depth("(8) made of " + each[0], x, each[2]);
        }
    }

    /** 'RUN by RUN': the run with the smaller number takes the water first. */
    private static void waterRunByRun() {
        Pistekeeper x = water(120);
        x.guns(0, 3);
        x.guns(1, 3);
        int before = x.ofRun(1, 2);
        Scene.hours(x, 1, -4, 0);
        Lies.depth("(8) three of four", x, 3);
        Check.same("(8) the fourth goes to the next run", x.ofRun(1, 2), before + 1);
    }

    /** 'the HEAP, divided by AREA, .. (nothing, if that is 0)'; 'what is left over by that division stays'. */
    private static void heapBelowArea() {
        Pistekeeper x = Scene.oneRun(24, 0, 9);
        x.guns(0, 8);
        Scene.hours(x, 1, -4, 0);
        Check.same("(8) a heap of 8", x.ofRun(0, 10), 8);
        Lies.layers("(8) 8 by 9", x, 0);
        x.guns(0, 1);
        Scene.hours(x, 1, -4, 0);
        Check.same("(8) 9 by 9 leave none", x.ofRun(0, 10), 0);
        Lies.layer("(8) 9 by 9", x, 0, 1, 40, MADE);
        x.guns(0, 9);
        Scene.hours(x, 1, -5, 0);
        Check.same("(8) 18 by 9 leave none", x.ofRun(0, 10), 0);
        Lies.depth("(8) 18 by 9", x, 3);
        x.guns(0, 2);
        Scene.hours(x, 1, -8, 0);
        Check.same("(8) 10 by 9 leave 1", x.ofRun(0, 10), 1);
        Lies.depth("(8) 10 by 9", x, 4);
        Scene.hours(x, 1, 0, 0);
        Check.same("(8) it stays", x.ofRun(0, 10), 1);
        Pistekeeper wet = nineAt(0, 20);
        Scene.hours(wet, 1, 1, 1);
        wet.guns(0, 1);
        wet.pass(1, 1, 0, 0, 0, 40);
        Lies.layers("(8) on wet snow", wet, 2);
        Lies.wet("(8) 'and it is not WET'", wet, false);
    }

    /** '300 at most; what is above is lost': it is not on the heap either. */
    private static void madeTo300() {
        Pistekeeper x = Scene.oneRun(24, 0, 1);
        x.guns(0, 9);
        Scene.hours(x, 5, -9, 0);
        Scene.hours(x, 1, -5, 0);
        Lies.depth("(8) 288", x, 288);
        x.guns(0, 1);
        Scene.hours(x, 1, -9, 0);
        Scene.hours(x, 1, -8, 0);
        Lies.depth("(8) 299", x, 299);
        Scene.hours(x, 1, -4, 0);
        Lies.depth("(8) 300", x, 300);
        Scene.hours(x, 1, -9, 0);
        Lies.depth("(8) no deeper", x, 300);
        Check.same("(8) what is above is lost", x.ofRun(0, 10), 0);
        Lies.layers("(8) in one layer", x, 1);
    }

    /** 'With a RISK of 100 or more there is one SLIDE': 99 lies still, 100 slides. */
    private static void riskOf100() {
        Pistekeeper still = Scene.loaded(44, 11, 0);
        Check.same("(9) 99 above 23 hard: 99 * 24 by 24", still.ofRun(0, 4), 99);
        Check.same("(9) no slide ever", still.many(8), 0);
        Pistekeeper ahead = Scene.loaded(45, 10, 0);
        Check.same("(9) ahead of it", ahead.ofRun(0, 4), 90 * 25 / 23);
        Check.same("(9) 96 * 25 by 24 slides", Scene.hours(ahead, 1, 0, 6), 1);
        Lies.layers("(9) all is gone", ahead, 0);
        Pistekeeper less = Scene.loaded(45, 10, 0);
        Check.same("(9) 95 * 25 by 24 does not", Scene.hours(less, 1, 0, 5), 0);
        Pistekeeper flat = Scene.loaded(24, 40, 0);
        Check.same("(9) none with a slope of 24", flat.many(8), 0);
    }

    /**
     * There is ONE slide: as the lowest two of eight become one, a hard weak layer takes the softness of the next one.
     * A softer one above it slides first, and leaves the lower one at 156 until the next hour.
     */
    private static void oneSlideAnHour() {
        Pistekeeper x = Scene.oneRun(45, 0, 1);
        Scene.hours(x, 1, 0, 1);
        Scene.hours(x, 1, -12, 0);
        for (int days = 0; days < 56; days += 2) {
            Scene.hours(x, 48, 0, 0);
        }
        Scene.until(x, 22);
        Lies.layer("(9) a hard weak one", x, 0, 1, 5 + 57, WEAK);
        int[] guns = {1, 4, 4};
        int[] warmth = {-4, -9, -9};
        for (int hour = 0; hour < 3; hour++) {
            x.guns(0, guns[hour]);
            Scene.hours(x, 1, warmth[hour], 1);
        }
        x.guns(0, 0);
        Scene.hours(x, 1, 0, 1);
        Scene.hours(x, 1, -12, 0);
        Lies.layers("(9) eight", x, 8);
        Lies.layer("(9) the second, still soft", x, 1, 1, 15, SNOW);
        Lies.layer("(9) the weak one on top", x, 7, 1, 5, WEAK);
        Check.same("(9) none up to here", x.many(8), 0);
        x.guns(0, 9);
        Check.same("(9) one slide", Scene.hours(x, 1, -9, 1), 1);
        Check.same("(9) the risk that it leaves: 50 above 15 hard", x.ofRun(0, 4), 2 * (50 * 25 / 16));
        x.guns(0, 0);
        Check.same("(9) the next one, an hour later", Scene.hours(x, 1, 0, 0), 1);
        Lies.layers("(9) that takes all", x, 0);
    }

    /** 'if it was OPEN, that is an ACCIDENT, and it is closed'. */
    private static void accidentOrNot() {
        Pistekeeper closed = Scene.loaded(45, 10, 0);
        Scene.hours(closed, 1, 0, 6);
        Check.same("(9) a slide", closed.many(8), 1);
        Check.same("(9) no accident", closed.many(10), 0);
        Pistekeeper x = Scene.oneRun(45, 0, 1);
        x.run(0, 0, 45, 0, 1);
        x.run(0, 0, 24, 0, 1);
        Scene.snow(x, 36);
        Scene.hours(x, 1, 0, 0);
        for (int run = 0; run < 3; run++) {
            Scene.open(x, run);
        }
        Check.same("(9) 108 * 25 by 28 is 96", Scene.hours(x, 12, 0, 9), 0);
        Check.same("(9) no accident yet", x.many(10), 0);
        Check.same("(9) still open", x.ofRun(0, 6), 1);
        Check.same("(9) 117 * 25 by 29 is 100", Scene.hours(x, 1, 0, 9), 2);
        Check.same("(9) an accident each", x.many(10), 2);
        Check.same("(9) closed by it", x.ofRun(0, 6), 0);
        Check.same("(9) the flat one stays open", x.many(3), 1);
        Check.same("(9) not swept", x.ofRun(0, 13), 0);
        Check.same("(9) not tested", x.ofRun(0, 9), -1);
        Check.state("(9) it can't be closed again", () -> x.close(0));
    }

    /** 'with a WIND above its LIMIT it is HELD', whether it is ON or not; it stays so. */
    private static void windAboveLimit() {
        for (int limit = 3; limit <= 9; limit++) {
            Pistekeeper x = new Pistekeeper();
            x.lift(10, limit);
            x.pass(1, 0, 0, limit, 0, 100);
            Check.same("2: wind at a limit of " + limit, x.ofLift(0, 3), 0);
            x.pass(1, 0, 0, Math.min(limit + 1, 9), 0, 100);
            Check.same("2: wind above a limit of " + limit, x.ofLift(0, 3), limit < 9 ? 1 : 0);
            x.pass(1, 0, 0, 0, 0, 100);
            Check.same("2: it stays so, limit " + limit, x.ofLift(0, 3), limit < 9 ? 1 : 0);
        }
    }
}
