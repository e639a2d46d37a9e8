/** The edges of section 1 of the terms: LAYERS, WET, RISK, SHEAR and SLIDE. */
public final class LayerEdgeTest {
    private static final int SNOW = 0;
    private static final int WEAK = 1;
    private static final int CRUST = 2;
    private static final int MADE = 3;

    public static void main(String[] args) {
        eightAndNine();
        ninthByWind();
        ninthByGuns();
        twoJoinsInOneHour();
        noNinthWithoutNew();
        joinedDepth();
        joinedHardnessAndKind();
        goneByRain();
        goneBySun();
        goneByWind();
        goneBySkiers();
        depthOf300();
        hardnessOf100();
        wetAsTopGoes();
        slopeOf25();
        riskOfNone();
        weakIsDoubledBehindTheDivision();
        lowestOfSeveral();
        greatestRiskThereIs();
        slideTakesShearAndAbove();
        sizeOf900();
        Check.end("LayerEdgeTest");
    }

    /** Layers of 1, 2, 3 .., so many, behind one another; the latest hour is one with snow. */
    private static Pistekeeper layers(int many) {
        Pistekeeper x = Scene.flat();
        for (int layer = 1; layer <= many; layer++) {
            Scene.snow(x, layer);
        }
        return x;
    }

    /** 'at most 8 of them'; 'If there would be a ninth, the two lowest ones become one first'. */
    private static void eightAndNine() {
        Lies.depths("1: eight", layers(8), 1, 2, 3, 4, 5, 6, 7, 8);
        Lies.depths("1: the ninth", layers(9), 3, 3, 4, 5, 6, 7, 8, 9);
        Pistekeeper x = layers(9);
        Scene.snow(x, 1);
        Lies.depths("1: a tenth", x, 6, 4, 5, 6, 7, 8, 9, 1);
        Lies.layer("1: it is the new one", x, 7, 1, 11, SNOW);
    }

    /** Rain makes the eighth one wet, and frost a crust, on which the wind lays the ninth. */
    private static void ninthByWind() {
        Pistekeeper x = layers(8);
        Scene.hours(x, 1, 1, 1);
        Scene.hours(x, 1, -3, 0);
        Lies.depths("1: eight with a crust", x, 1, 2, 3, 4, 5, 6, 7, 7);
        x.pass(1, 0, 0, 9, 2, 100);
        Lies.depths("1: a ninth by wind", x, 3, 3, 4, 5, 6, 7, 7, 5);
        Lies.layer("1: of the wind", x, 7, 5, 21, SNOW);
        Lies.layer("1: the crust", x, 6, 7, 80, CRUST);
    }

    private static void ninthByGuns() {
        Pistekeeper x = layers(8);
        x.guns(0, 2);
        Scene.hours(x, 1, -5, 0);
        Lies.depths("1: a ninth by guns", x, 3, 3, 4, 5, 6, 7, 8, 4);
        Lies.layer("1: of the guns", x, 7, 4, 40, MADE);
    }

    /** A ninth falls, and then another one is made. */
    private static void twoJoinsInOneHour() {
        Pistekeeper x = layers(8);
        Scene.hours(x, 1, 0, 0);
        x.guns(0, 1);
        Scene.hours(x, 1, -4, 9);
        Lies.depths("1: two in one hour", x, 6, 4, 5, 6, 7, 8, 9, 1);
        Check.same("1: made on top", x.ofLayer(0, 7, 2), MADE);
        Check.same("1: snow below", x.ofLayer(0, 6, 2), SNOW);
    }

    private static void noNinthWithoutNew() {
        Pistekeeper x = layers(8);
        Scene.hours(x, 1, 0, 9);
        Lies.depths("1: deeper is no ninth", x, 1, 2, 3, 4, 5, 6, 7, 17);
        x.pass(1, 0, 0, 9, 2, 100);
        Lies.depths("1: blown deeper is no ninth", x, 1, 2, 3, 4, 5, 6, 7, 22);
        Pistekeeper made = layers(7);
        made.guns(0, 1);
        Scene.hours(made, 1, -4, 0);
        Lies.depths("1: the eighth is made", made, 1, 2, 3, 4, 5, 6, 7, 1);
        Scene.hours(made, 1, -4, 0);
        Lies.depths("1: made deeper is no ninth", made, 1, 2, 3, 4, 5, 6, 7, 2);
    }

    /** 'DEPTH of both together (300 at most)'. */
    private static void joinedDepth() {
        int[][] secondAndBoth = {{149, 299}, {150, 300}, {151, 300}, {300, 300}};
        for (int[] each : secondAndBoth) {
            Pistekeeper x = Scene.flat();
            Scene.snow(x, 150);
            Scene.snow(x, each[0]);
            for (int layer = 1; layer <= 6; layer++) {
                Scene.snow(x, layer);
            }
            Check.same("1: the second", x.ofLayer(0, 1, 0), each[0]);
            Scene.snow(x, 7);
            Lies.depths("1: 150 and " + each[0], x, each[1], 1, 2, 3, 4, 5, 6, 7);
        }
    }

    /** 'the smaller HARDNESS, the KIND of the lower one'. */
    private static void joinedHardnessAndKind() {
        Pistekeeper lowerIsWeak = Scene.flat();
        Scene.hours(lowerIsWeak, 1, 0, 2);
        Scene.hours(lowerIsWeak, 1, -12, 0);
        fillUp(lowerIsWeak, 7);
        Lies.layer("1: the weak one", lowerIsWeak, 0, 2, 6, WEAK);
        Scene.snow(lowerIsWeak, 1);
        Lies.layer("1: weak below", lowerIsWeak, 0, 3, 6, WEAK);
        Pistekeeper upperIsWeak = Scene.flat();
        Scene.hours(upperIsWeak, 1, 0, 2);
        Scene.hours(upperIsWeak, 1, 0, 0);
        Scene.hours(upperIsWeak, 1, 0, 3);
        Scene.hours(upperIsWeak, 1, -12, 0);
        fillUp(upperIsWeak, 6);
        Lies.layer("1: the weak one above", upperIsWeak, 1, 3, 6, WEAK);
        Scene.snow(upperIsWeak, 1);
        // It is SNOW from the ninth on, and so 1 harder in that very hour.
        Lies.layer("1: weak above", upperIsWeak, 0, 5, 7, SNOW);
        Pistekeeper crust = Scene.flat();
        Scene.hours(crust, 1, 0, 2);
        Scene.hours(crust, 1, 1, 1);
        Scene.hours(crust, 1, -3, 0);
        fillUp(crust, 7);
        int softer = crust.ofLayer(0, 1, 1);
        Scene.snow(crust, 1);
        // One dry hour went by ahead of the ninth.
        Lies.layer("1: crust below", crust, 0, 2, softer + 1, CRUST);
    }

    private static void fillUp(Pistekeeper x, int layers) {
        for (int layer = 0; layer < layers; layer++) {
            Scene.snow(x, 1);
        }
        Check.same("scene: eight", x.ofRun(0, 1), 8);
    }

    /** 'A LAYER whose DEPTH comes to 0, or would be below, is gone; the one below loses nothing by that.' */
    private static void goneByRain() {
        Pistekeeper x = layers(2);
        Scene.snow(x, 5);
        Scene.hours(x, 1, 1, 4);
        Lies.depths("1: rain, down to 1", x, 1, 2, 1);
        Pistekeeper zero = layers(2);
        Scene.snow(zero, 5);
        Scene.hours(zero, 1, 1, 5);
        Lies.depths("1: rain, down to 0", zero, 1, 2);
        Pistekeeper below = layers(2);
        Scene.snow(below, 5);
        Scene.hours(below, 1, 1, 9);
        Lies.depths("1: rain, below 0", below, 1, 2);
        Scene.hours(below, 2, 1, 9);
        Lies.depths("1: rain, an hour a layer", below);
        Scene.hours(below, 1, 1, 9);
        Lies.depths("1: rain on none", below);
    }

    private static void goneBySun() {
        Pistekeeper x = Scene.oneRun(24, 2, 1);
        Scene.snow(x, 4);
        Scene.snow(x, 2);
        Scene.until(x, 9);
        Lies.depths("1: ahead of the sun", x, 4, 2);
        Scene.hours(x, 1, 0, 0);
        Lies.depths("1: sun, down to 1", x, 4, 1);
        Scene.hours(x, 1, 0, 0);
        Lies.depths("1: sun, down to 0", x, 4);
        Scene.hours(x, 4, 0, 0);
        Lies.depths("1: sun, all of it", x);
    }

    private static void goneByWind() {
        int[][] windAndLeft = {{8, 1}, {9, 0}};
        for (int[] each : windAndLeft) {
            Pistekeeper x = layers(2);
            Scene.snow(x, 5);
            x.pass(1, 0, 0, each[0], 0, 100);
            Check.same("1: wind of " + each[0], x.ofRun(0, 2), 3 + each[1]);
            Check.same("1: layers behind it", x.ofRun(0, 1), 2 + each[1]);
        }
        Pistekeeper below = layers(2);
        Scene.snow(below, 4);
        below.pass(1, 0, 0, 9, 0, 100);
        Lies.depths("1: wind, below 0", below, 1, 2);
    }

    private static void goneBySkiers() {
        Pistekeeper x = Scene.resort(999, 9, 1);
        Scene.hours(x, 1, 0, 0);
        Scene.hours(x, 1, 0, 2);
        Lies.depths("1: ahead of the skiers", x, 63, 2);
        x.crowd(200);
        Scene.hours(x, 1, 0, 0);
        Lies.depths("1: skiers, down to 1", x, 63, 1);
        Scene.hours(x, 1, 0, 0);
        Lies.depths("1: skiers, down to 0", x, 63);
        Scene.hours(x, 1, 0, 0);
        Lies.depths("1: skiers, on the next one", x, 62);
    }

    /** 'a DEPTH (1 to 300)', by snow; by wind and by guns, see the edges of the hour. */
    private static void depthOf300() {
        Pistekeeper x = Scene.flat();
        Scene.hours(x, 33, 0, 9);
        Scene.hours(x, 1, 0, 2);
        Lies.depths("1: nearly full", x, 299);
        Scene.hours(x, 1, 0, 1);
        Lies.depths("1: full", x, 300);
        Scene.hours(x, 1, 0, 1);
        Lies.depths("1: what is above is lost", x, 300);
        Scene.snow(x, 1);
        Lies.depths("1: the least, on a full one", x, 300, 1);
        Pistekeeper above = Scene.flat();
        Scene.hours(above, 33, 0, 9);
        Scene.hours(above, 1, 0, 9);
        Lies.depths("1: 297 and 9", above, 300);
    }

    /** 'a HARDNESS (0 to 100)': of snow from 10 in 90 hours, of what is made from 40 in 60, of weak snow in 95 days. */
    private static void hardnessOf100() {
        Pistekeeper x = Scene.flat();
        Scene.hours(x, 1, 0, 9);
        Scene.hours(x, 48, 0, 0);
        Scene.hours(x, 40, 0, 0);
        Lies.layer("1: nearly hard", x, 0, 9, 99, SNOW);
        Scene.hours(x, 1, 0, 0);
        Lies.layer("1: hard", x, 0, 9, 100, SNOW);
        Scene.hours(x, 1, 0, 0);
        Lies.layer("1: no harder", x, 0, 9, 100, SNOW);
        Pistekeeper made = Scene.flat();
        made.guns(0, 1);
        Scene.hours(made, 1, -4, 0);
        made.guns(0, 0);
        Scene.hours(made, 48, 0, 0);
        Scene.hours(made, 11, 0, 0);
        Lies.layer("1: made, nearly hard", made, 0, 1, 99, MADE);
        Scene.hours(made, 2, 0, 0);
        Lies.layer("1: made, no harder", made, 0, 1, 100, MADE);
        Pistekeeper weak = Scene.flat();
        Scene.hours(weak, 1, 0, 9);
        Scene.hours(weak, 1, -12, 0);
        for (int days = 0; days < 94; days += 2) {
            Scene.hours(weak, 48, 0, 0);
        }
        Lies.layer("1: weak, nearly hard", weak, 0, 9, 99, WEAK);
        Scene.hours(weak, 24, 0, 0);
        Lies.layer("1: weak, hard", weak, 0, 9, 100, WEAK);
        Scene.hours(weak, 24, 0, 0);
        Lies.layer("1: weak, no harder", weak, 0, 9, 100, WEAK);
    }

    /** 9 of snow with this much wet snow of a layer of its own above it, and no sun. */
    private static Pistekeeper wetTop(int depth) {
        Pistekeeper x = Scene.flat();
        Scene.snow(x, 9);
        Scene.snow(x, depth + 1);
        Scene.hours(x, 1, 1, 1);
        Check.same("scene: wet", x.ofRun(0, 3), 1);
        Check.same("scene: deep", x.ofLayer(0, 1, 0), depth);
        return x;
    }

    /** 'as its top LAYER is gone, it is not WET', and so no crust comes of it. */
    private static void wetAsTopGoes() {
        Pistekeeper stays = wetTop(3);
        stays.pass(1, 0, 0, 6, 0, 100);
        Check.same("1: a top layer of 1 is left, wet", stays.ofRun(0, 3), 1);
        Pistekeeper x = wetTop(2);
        x.pass(1, 0, 0, 6, 0, 100);
        Lies.depths("1: blown away", x, 9);
        Check.same("1: blown away, not wet", x.ofRun(0, 3), 0);
        Scene.hours(x, 1, -3, 0);
        Check.same("1: no crust", x.ofLayer(0, 0, 2), SNOW);
        Pistekeeper rained = wetTop(2);
        Scene.hours(rained, 1, 1, 2);
        Lies.depths("1: rained away", rained, 9);
        Check.same("1: by rain the next one is wet", rained.ofRun(0, 3), 1);
        Scene.hours(rained, 1, 1, 9);
        Check.same("1: nothing is not wet", rained.ofRun(0, 3), 0);
        wetAsSkiersOrASlideTakeIt();
    }

    private static void wetAsSkiersOrASlideTakeIt() {
        Pistekeeper x = Scene.resort(999, 9, 1);
        Scene.hours(x, 1, 0, 0);
        Scene.hours(x, 1, 0, 2);
        x.crowd(200);
        Scene.hours(x, 1, 1, 1);
        Lies.depths("1: worn off", x, 63);
        Check.same("1: worn off, not wet", x.ofRun(0, 3), 0);
        Pistekeeper slid = Scene.loaded(45, 3, 0);
        Scene.hours(slid, 1, 1, 1);
        Check.same("1: wet ahead of the slide", slid.ofRun(0, 3), 1);
        Check.same("1: the risk", slid.ofRun(0, 4), 26 * 25 / 17);
        Scene.hours(slid, 1, 0, 9);
        Scene.hours(slid, 1, 1, 1);
        Check.same("1: wet again", slid.ofRun(0, 3), 1);
        Check.same("1: a slide of all", slid.blast(0), 5 + 26 + 8);
        Check.same("1: slid, not wet", slid.ofRun(0, 3), 0);
    }

    /** 'The RISK of a RUN: 0 with a SLOPE below 25'. */
    private static void slopeOf25() {
        int[][] slopeAndRisk = {{5, 0}, {19, 0}, {20, 0}, {21, 0}, {24, 0}, {25, 2 * (9 * 5 / 6)}, {26, 2 * 9}};
        for (int[] each : slopeAndRisk) {
            Pistekeeper x = Scene.oneRun(each[0], 0, 1);
            Scene.hours(x, 1, 0, 5);
            Scene.hours(x, 1, -12, 0);
            Scene.hours(x, 1, 0, 9);
            Check.same("1: risk with a slope of " + each[0], x.ofRun(0, 4), each[1]);
            Check.same("1: shear with a slope of " + each[0], x.ofRun(0, 5), each[1] > 0 ? 0 : -1);
        }
    }

    /** 'of each LAYER but the top one'; '0 without any'; 'NONE with a RISK of 0'. */
    private static void riskOfNone() {
        Pistekeeper x = Scene.oneRun(45, 0, 1);
        Check.same("1: without layers", x.ofRun(0, 4), 0);
        Check.same("1: without layers, shear", x.ofRun(0, 5), -1);
        Scene.hours(x, 1, 0, 9);
        Scene.hours(x, 1, -12, 0);
        Check.same("1: just a weak one", x.ofRun(0, 4), 0);
        Check.same("1: just a weak one, shear", x.ofRun(0, 5), -1);
        Pistekeeper cut = Scene.oneRun(25, 0, 1);
        Scene.snow(cut, 5);
        Scene.snow(cut, 2);
        Check.same("1: 10 by 14 is cut to 0", cut.ofRun(0, 4), 0);
        Check.same("1: a risk of 0 has no shear", cut.ofRun(0, 5), -1);
        Scene.hours(cut, 1, 0, 1);
        Check.same("1: 15 by 15 is 1", cut.ofRun(0, 4), 1);
        Check.same("1: a risk of 1 has one", cut.ofRun(0, 5), 0);
    }

    /** 'divided by (HARDNESS and 1); 2 times that, if it is WEAK'. */
    private static void weakIsDoubledBehindTheDivision() {
        Pistekeeper x = Scene.oneRun(27, 0, 1);
        Scene.hours(x, 1, 0, 5);
        Scene.hours(x, 1, -12, 0);
        Scene.hours(x, 1, 0, 5);
        Check.same("1: 35 by 6, cut, twice", x.ofRun(0, 4), 2 * 5);
        Pistekeeper none = Scene.oneRun(25, 0, 1);
        Scene.hours(none, 1, 0, 5);
        Scene.hours(none, 1, -12, 0);
        Scene.hours(none, 1, 0, 1);
        Check.same("1: 5 by 6, cut, twice", none.ofRun(0, 4), 0);
    }

    /** 'its SHEAR is the LAYER for which it is the greatest, of several the lowest one'. */
    private static void lowestOfSeveral() {
        // Above the lowest, of a hardness of 16: 7 of snow; above the next, of 14: 6.
        Pistekeeper x = Scene.oneRun(40, 0, 1);
        Scene.hours(x, 1, 0, 3);
        Scene.hours(x, 1, 0, 0);
        Scene.hours(x, 1, 0, 1);
        Scene.hours(x, 1, 0, 0);
        Scene.hours(x, 1, 0, 6);
        Check.same("1: 140 by 16 is 8", 7 * 20 / (x.ofLayer(0, 0, 1) + 1), 8);
        Check.same("1: 120 by 14 is 8", 6 * 20 / (x.ofLayer(0, 1, 1) + 1), 8);
        Check.same("1: both are 8", x.ofRun(0, 4), 8);
        Check.same("1: the lowest", x.ofRun(0, 5), 0);
        Pistekeeper upper = Scene.oneRun(40, 0, 1);
        Scene.hours(upper, 1, 0, 3);
        Scene.hours(upper, 48, 0, 0);
        Scene.hours(upper, 1, 0, 1);
        Scene.hours(upper, 1, 0, 0);
        Scene.hours(upper, 1, 0, 6);
        Check.same("1: 140 by 63 is less than 120 by 14", upper.ofRun(0, 4), 8);
        Check.same("1: the upper one", upper.ofRun(0, 5), 1);
    }

    /**
     * 'A RISK is 999 at most': a slide goes at 100, so that in no run of calls more than 11 lie on weak snow of 5 ahead
     * of an hour, nor more than 74 at its end without wind. That risk, 616, is the greatest one, and is not cut.
     */
    private static void greatestRiskThereIs() {
        Pistekeeper x = Scene.oneRun(45, 0, 1);
        Scene.hours(x, 1, 0, 9);
        Scene.hours(x, 1, -12, 0);
        Scene.hours(x, 1, 0, 9);
        Scene.hours(x, 1, 0, 2);
        Check.same("1: the risk ahead", x.ofRun(0, 4), 2 * (11 * 25 / 6));
        x.guns(0, 9);
        Check.same("1: the greatest risk", x.wouldRisk(0, 1, -9, 9), 2 * (74 * 25 / 6));
        Check.same("1: it slides", Scene.hours(x, 1, -9, 9), 1);
    }

    /** 'its SHEAR and all LAYERS above it are gone'; what lies below stays. */
    private static void slideTakesShearAndAbove() {
        Pistekeeper x = Scene.oneRun(45, 0, 3);
        Scene.snow(x, 9);
        Scene.snow(x, 4);
        Scene.until(x, 0);
        Scene.hours(x, 1, -12, 0);
        Lies.layer("1: weak", x, 1, 4, 5, WEAK);
        Scene.hours(x, 1, 0, 9);
        Check.same("1: the shear", x.ofRun(0, 5), 1);
        x.test(0);
        x.sweep(0);
        Check.same("1: its size", x.blast(0), (4 + 9) * 3);
        Lies.depths("1: below the shear", x, 9);
        Check.same("1: 'not TESTED'", x.ofRun(0, 9), -1);
        Check.same("1: 'and not SWEPT any more'", x.ofRun(0, 13), 0);
        Check.same("1: the risk of what stays", x.ofRun(0, 4), 0);
    }

    /** 'It REACHES the road with a SIZE of 900 or more': 300 and 300 of hard snow below 299, or 300, slide at once. */
    private static void sizeOf900() {
        for (int last = 2; last <= 3; last++) {
            Pistekeeper x = Scene.oneRun(37, 0, 1);
            Scene.snow(x, 300);
            Scene.hours(x, 48, 0, 0);
            Scene.hours(x, 48, 0, 0);
            Scene.snow(x, 300);
            Scene.hours(x, 48, 0, 0);
            Scene.snow(x, 288 + last);
            Check.same("1: just not yet", x.ofRun(0, 4), 99);
            Check.same("1: one slide", Scene.hours(x, 1, 0, 9), 1);
            Lies.depths("1: all of it", x);
            Check.same("1: 900 reach the road, 899 do not", x.many(9), last - 2);
            Check.same("1: it is a slide either way", x.many(8), 1);
        }
        Pistekeeper none = Scene.loaded(45, 10, 4);
        none.blast(0);
        Check.same("1: 99 by an area of 1", none.many(9), 0);
    }
}
