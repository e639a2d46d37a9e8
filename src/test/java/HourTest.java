/** Promise 9: pass, and what goes on in an hour (section 2 of the terms), step by step. */
public final class HourTest {
    private static final int SNOW = 0;
    private static final int WEAK = 1;
    private static final int CRUST = 2;
    private static final int MADE = 3;

    public static void main(String[] args) {
        arguments();
        time();
        temperature();
        snowfall();
        rain();
        wind();
        sun();
        frost();
        weakening();
        settling();
        guns();
        guns2();
        layersJoin();
        slides();
        accident();
        skiersShare();
        skiersWait();
        wear();
        calls();
        Check.end("HourTest");
    }

    /** One lift, and one flat run, on which nothing slides. */
    private static Pistekeeper flat(int aspect, int area) {
        Pistekeeper x = new Pistekeeper();
        x.lift(100, 9);
        x.run(0, 0, 24, aspect, area);
        return x;
    }

    private static Pistekeeper steep(int area) {
        Pistekeeper x = new Pistekeeper();
        x.lift(999, 9);
        x.run(0, 0, 45, 0, area);
        return x;
    }

    private static void hours(Pistekeeper x, int hours, int warmth, int fall) {
        x.pass(hours, warmth, fall, 0, 0, 0);
    }

    private static void layer(String what, Pistekeeper x, int layer, int depth, int hardness, int kind) {
        Check.same(what + ": depth", x.ofLayer(0, layer, 0), depth);
        Check.same(what + ": hardness", x.ofLayer(0, layer, 1), hardness);
        Check.same(what + ": kind", x.ofLayer(0, layer, 2), kind);
    }

    private static void layers(String what, Pistekeeper x, int due) {
        Check.same(what + ": layers", x.ofRun(0, 1), due);
    }

    private static void wet(String what, Pistekeeper x, int due) {
        Check.same(what + ": wet", x.ofRun(0, 3), due);
    }

    private static void arguments() {
        Pistekeeper x = flat(0, 1);
        int[] far = {Integer.MIN_VALUE, Integer.MAX_VALUE};
        for (int bad : far) {
            Check.argument("9: hours " + bad, () -> x.pass(bad, 0, 0, 0, 0, 0));
            Check.argument("9: warmth " + bad, () -> x.pass(1, bad, 0, 0, 0, 0));
            Check.argument("9: fall " + bad, () -> x.pass(1, 0, bad, 0, 0, 0));
            Check.argument("9: wind " + bad, () -> x.pass(1, 0, 0, bad, 0, 0));
            Check.argument("9: from " + bad, () -> x.pass(1, 0, 0, 0, bad, 0));
            Check.argument("9: humid " + bad, () -> x.pass(1, 0, 0, 0, 0, bad));
        }
        int[][] near = {
            {0, 0, 0, 0, 0, 0}, {49, 0, 0, 0, 0, 0}, {1, -21, 0, 0, 0, 0}, {1, 21, 0, 0, 0, 0}, {1, 0, -1, 0, 0, 0},
            {1, 0, 10, 0, 0, 0}, {1, 0, 0, -1, 0, 0}, {1, 0, 0, 10, 0, 0}, {1, 0, 0, 0, -1, 0}, {1, 0, 0, 0, 4, 0},
            {1, 0, 0, 0, 0, -1}, {1, 0, 0, 0, 0, 101}
        };
        for (int[] a : near) {
            Check.argument("9: " + java.util.Arrays.toString(a), () -> x.pass(a[0], a[1], a[2], a[3], a[4], a[5]));
        }
        Check.same("9: nothing went by", x.many(0), 0);
        Check.same("9: the least", x.pass(1, -20, 0, 0, 0, 0), 0);
        Check.same("9: the most", x.pass(48, 20, 9, 9, 3, 100), 0);
        Check.same("9: now", x.many(0), 49);
    }

    private static void time() {
        Pistekeeper x = new Pistekeeper();
        for (int times = 0; times < 208; times++) {
            x.pass(48, 0, 0, 0, 0, 0);
        }
        Check.same("9: now, late", x.many(0), 9984);
        Check.state("9: beyond 9999", () -> x.pass(16, 0, 0, 0, 0, 0));
        Check.argument("9: beyond 9999, and wrong", () -> x.pass(16, 0, 0, 0, 0, 101));
        Check.same("9: nothing went by late", x.many(0), 9984);
        Check.same("9: up to 9999", x.pass(15, 0, 0, 0, 0, 0), 0);
        Check.state("9: at 9999", () -> x.pass(1, 0, 0, 0, 0, 0));
        Check.same("9: now at last", x.many(0), 9999);
    }

    private static void temperature() {
        int[][] heightsAndWarmth = {{0, 0, 1}, {0, 1, 0}, {5, 2, 1}, {5, 3, 0}, {30, 15, 1}, {30, 16, 0}, {1, 0, 1}};
        for (int[] each : heightsAndWarmth) {
            Pistekeeper x = new Pistekeeper();
            x.lift(10, 3);
            x.run(0, each[0], 5, 0, 1);
            x.pass(1, each[1], 3, 0, 0, 0);
            layers("(1) height " + each[0] + ", warmth " + each[1], x, each[2]);
        }
    }

    private static void snowfall() {
        Pistekeeper x = flat(0, 1);
        hours(x, 1, 0, 4);
        layers("(2) the first", x, 1);
        layer("(2) the first", x, 0, 4, 11, SNOW);
        hours(x, 1, 0, 3);
        layers("(2) the next hour", x, 1);
        layer("(2) the next hour", x, 0, 7, 12, SNOW);
        hours(x, 1, 0, 0);
        hours(x, 1, 0, 5);
        layers("(2) behind a dry hour", x, 2);
        layer("(2) behind a dry hour", x, 1, 5, 11, SNOW);
        Pistekeeper deep = flat(0, 1);
        hours(deep, 40, 0, 9);
        layers("(2) no deeper than 300", deep, 1);
        layer("(2) no deeper than 300", deep, 0, 300, 50, SNOW);
        Pistekeeper rained = flat(0, 1);
        hours(rained, 1, 0, 9);
        hours(rained, 1, 1, 1);
        wet("(2) rained on", rained, 1);
        hours(rained, 1, 0, 2);
        layers("(2) rain is no snow of the hour ahead", rained, 2);
        wet("(2) new snow is not wet", rained, 0);
    }

    private static void rain() {
        Pistekeeper x = flat(0, 1);
        hours(x, 1, 5, 4);
        layers("(2) rain on the ground", x, 0);
        wet("(2) rain on the ground", x, 0);
        hours(x, 1, 0, 6);
        hours(x, 1, 0, 0);
        hours(x, 1, 0, 5);
        hours(x, 1, 1, 4);
        layers("(2) rain leaves some", x, 2);
        Check.same("(2) rain leaves some: depth", x.ofLayer(0, 1, 0), 1);
        wet("(2) rain leaves some", x, 1);
        hours(x, 1, 1, 9);
        layers("(2) rain takes the top one", x, 1);
        Check.same("(2) the one below loses nothing", x.ofLayer(0, 0, 0), 6);
        wet("(2) there are still some", x, 1);
        hours(x, 1, 1, 6);
        layers("(2) rain takes all", x, 0);
        wet("(2) none left", x, 0);
    }

    private static void wind() {
        Pistekeeper lee = flat(2, 1);
        lee.pass(1, 0, 0, 4, 0, 0);
        layers("(3) not above 4", lee, 0);
        lee.pass(1, 0, 0, 5, 0, 0);
        layer("(3) a new one", lee, 0, 1, 21, SNOW);
        lee.pass(1, 0, 0, 9, 0, 0);
        layers("(3) the same one", lee, 1);
        layer("(3) the same one", lee, 0, 6, 22, SNOW);
        lee.pass(1, 0, 0, 9, 1, 0);
        lee.pass(1, 0, 0, 9, 3, 0);
        layer("(3) from aside", lee, 0, 6, 24, SNOW);
        lee.pass(1, 0, 0, 7, 2, 0);
        layer("(3) blown away", lee, 0, 3, 25, SNOW);
        lee.pass(1, 0, 0, 7, 2, 0);
        layers("(3) blown away at all", lee, 0);
        Pistekeeper all = flat(1, 1);
        all.pass(1, 0, 3, 7, 3, 0);
        layer("(3) snow and wind", all, 0, 6, 11, SNOW);
        all.pass(1, 1, 3, 7, 3, 0);
        layer("(3) no wind with rain", all, 0, 3, 12, SNOW);
        all.pass(1, 0, 0, 7, 3, 0);
        wet("(3) a deeper layer stays wet", all, 1);
        all.pass(1, -3, 0, 0, 0, 0);
        layer("(3) ahead of crust", all, 0, 6, 80, CRUST);
        all.pass(1, 0, 0, 9, 1, 0);
        layer("(3) crust is not blown away", all, 0, 6, 80, CRUST);
        all.pass(1, 0, 0, 9, 3, 0);
        layers("(3) on crust", all, 2);
        layer("(3) on crust", all, 1, 5, 21, SNOW);
        Pistekeeper deep = flat(3, 1);
        hours(deep, 33, 0, 9);
        deep.pass(1, 0, 0, 9, 1, 0);
        layer("(3) no deeper than 300", deep, 0, 300, 44, SNOW);
    }

    private static void sun() {
        int[][] aspectWarmthLess = {{2, -1, 6}, {0, 3, 6}, {0, 2, 0}, {1, 2, 0}, {3, 2, 0}, {1, 3, 6}};
        for (int[] each : aspectWarmthLess) {
            Pistekeeper x = flat(each[0], 1);
            hours(x, 4, 0, 9);
            String what = "(4) aspect " + each[0] + ", warmth " + each[1];
            hours(x, 5, each[1], 0);
            Check.same(what + ", up to 9", x.ofRun(0, 2), 36);
            hours(x, 1, each[1], 0);
            Check.same(what + ", at 10", x.ofRun(0, 2), each[2] > 0 ? 35 : 36);
            wet(what + ", at 10", x, each[2] > 0 ? 1 : 0);
            hours(x, 14, each[1], 0);
            Check.same(what + ", the day", x.ofRun(0, 2), 36 - each[2]);
        }
        Pistekeeper falls = flat(2, 1);
        hours(falls, 9, 0, 9);
        hours(falls, 1, 0, 1);
        Check.same("(4) not with fall", falls.ofRun(0, 2), 82);
        Pistekeeper thin = flat(2, 1);
        hours(thin, 7, 0, 0);
        hours(thin, 1, 0, 1);
        hours(thin, 1, 0, 0);
        hours(thin, 1, 0, 0);
        layers("(4) melts at all", thin, 0);
        wet("(4) melts at all", thin, 0);
    }

    private static void frost() {
        Pistekeeper x = flat(0, 1);
        hours(x, 1, 0, 9);
        hours(x, 1, -3, 0);
        layer("(5) not wet", x, 0, 9, 12, SNOW);
        hours(x, 1, 1, 2);
        hours(x, 1, -2, 0);
        wet("(5) not cold", x, 1);
        layer("(5) not cold", x, 0, 7, 14, SNOW);
        hours(x, 1, -3, 0);
        wet("(5) frozen", x, 0);
        layer("(5) frozen", x, 0, 7, 80, CRUST);
    }

    private static void weakening() {
        Pistekeeper x = flat(0, 1);
        hours(x, 1, 0, 5);
        hours(x, 1, -11, 0);
        layer("(6) not cold", x, 0, 5, 12, SNOW);
        hours(x, 1, -12, 1);
        layer("(6) with fall", x, 1, 1, 11, SNOW);
        hours(x, 1, -12, 0);
        layer("(6) cold", x, 1, 1, 5, WEAK);
        layer("(6) just the top one", x, 0, 5, 14, SNOW);
        Pistekeeper deep = flat(0, 1);
        hours(deep, 1, 0, 9);
        hours(deep, 1, 0, 1);
        hours(deep, 1, -12, 0);
        layer("(6) of 10", deep, 0, 10, 5, WEAK);
        Pistekeeper deeper = flat(0, 1);
        hours(deeper, 1, 0, 9);
        hours(deeper, 1, 0, 2);
        hours(deeper, 1, -12, 0);
        layer("(6) of 11", deeper, 0, 11, 13, SNOW);
        Pistekeeper late = flat(0, 1);
        hours(late, 5, 0, 2);
        hours(late, 18, -12, 0);
        layer("(6) from 6 to 23", late, 0, 10, 33, SNOW);
        hours(late, 1, -12, 0);
        layer("(6) at 0", late, 0, 10, 5, WEAK);
        Pistekeeper five = flat(0, 1);
        hours(five, 4, 0, 1);
        hours(five, 1, -12, 0);
        layer("(6) at 5", five, 0, 4, 5, WEAK);
    }

    private static void settling() {
        Pistekeeper x = flat(0, 1);
        hours(x, 1, 0, 5);
        hours(x, 1, -12, 0);
        hours(x, 1, 0, 9);
        hours(x, 8, 0, 0);
        layer("(7) weak up to 11", x, 0, 5, 5, WEAK);
        hours(x, 1, 0, 0);
        layer("(7) weak at 12", x, 0, 5, 6, WEAK);
        layer("(7) snow", x, 1, 9, 20, SNOW);
        hours(x, 24, 0, 0);
        layer("(7) weak the next day", x, 0, 5, 7, WEAK);
        hours(x, 48, 0, 0);
        hours(x, 48, 0, 0);
        layer("(7) 100 at most", x, 1, 9, 100, SNOW);
        Pistekeeper crust = flat(0, 1);
        hours(crust, 1, 0, 9);
        hours(crust, 1, 1, 1);
        hours(crust, 20, -3, 0);
        layer("(7) crust stays", crust, 0, 8, 80, CRUST);
    }

    private static void guns() {
        Pistekeeper x = flat(0, 4);
        x.guns(0, 3);
        x.pass(1, -3, 0, 0, 0, 100);
        Check.same("(8) not cold", x.many(4), 500);
        x.pass(1, -4, 0, 0, 0, 90);
        Check.same("(8) damp of 90 is 1 colder", x.many(4), 485);
        Check.same("(8) a bulb of -5 makes 2 each", x.ofRun(0, 10), 2);
        layer("(8) made", x, 0, 1, 40, MADE);
        x.pass(1, -4, 0, 0, 0, 91);
        Check.same("(8) a bulb of -4 makes 1 each", x.ofRun(0, 10), 1);
        layers("(8) on what is made", x, 1);
        layer("(8) on what is made", x, 0, 2, 41, MADE);
        x.guns(0, 0);
        x.pass(1, -20, 0, 0, 0, 100);
        Check.same("(8) none without guns", x.ofRun(0, 10), 1);
        Check.same("(8) no water without guns", x.many(4), 470);
        x.guns(0, 1);
        x.pass(1, -9, 0, 0, 0, 100);
        Check.same("(8) a bulb of -9 makes 6", x.ofRun(0, 10), 3);
        x.pass(1, -20, 0, 0, 0, 0);
        Check.same("(8) never more than 6", x.ofRun(0, 10), 1);
        layer("(8) all of it", x, 0, 5, 44, MADE);
        x.guns(0, 0);
        hours(x, 1, 0, 2);
        x.guns(0, 1);
        x.pass(1, -20, 0, 0, 0, 0);
        layers("(8) a new one on snow", x, 3);
        layer("(8) a new one on snow", x, 2, 1, 40, MADE);
    }

    private static void guns2() {
        Pistekeeper x = flat(0, 9);
        x.lift(10, 3);
        x.run(0, 0, 5, 0, 9);
        x.guns(0, 9);
        x.guns(1, 9);
        x.pass(4, -4, 0, 0, 0, 100);
        Check.same("(8) water behind four hours", x.many(4), 140);
        x.pass(1, -4, 0, 0, 0, 100);
        Check.same("(8) down to 100 one by one", x.many(4), 100);
        Check.same("(8) eight of nine", x.ofRun(0, 10), 8);
        Check.same("(8) none for the other", x.ofRun(1, 10), 0);
        Check.same("(8) what was made", x.ofRun(0, 2), 4);
        x.pass(1, -20, 0, 0, 0, 100);
        Check.same("(8) no water below 105", x.many(4), 100);
        x.fill(4);
        x.pass(1, -20, 0, 0, 0, 100);
        Check.same("(8) nor at 104", x.many(4), 104);
        x.fill(1);
        x.pass(1, -20, 0, 0, 0, 100);
        Check.same("(8) but at 105", x.many(4), 100);
        Pistekeeper cap = flat(0, 1);
        cap.guns(0, 9);
        cap.fill(5000);
        cap.pass(6, -9, 0, 0, 0, 100);
        layer("(8) no deeper than 300", cap, 0, 300, 45, MADE);
        Check.same("(8) what is above is lost", cap.ofRun(0, 10), 0);
        Pistekeeper wet = flat(0, 1);
        hours(wet, 1, 0, 9);
        wet.pass(1, 1, 1, 0, 0, 0);
        wet.guns(0, 1);
        wet.pass(1, 1, 0, 0, 0, 40);
        layers("(8) a bulb by damp alone", wet, 2);
        wet("(8) what is made is not wet", wet, 0);
    }

    private static void layersJoin() {
        Pistekeeper x = flat(0, 1);
        hours(x, 1, 0, 9);
        hours(x, 1, -12, 0);
        for (int times = 0; times < 2; times++) {
            hours(x, 33, 0, 9);
            hours(x, 1, 0, 0);
        }
        for (int times = 0; times < 5; times++) {
            hours(x, 1, 0, 1 + times);
            hours(x, 1, 0, 0);
        }
        layers("2: eight", x, 8);
        Check.same("2: the lowest is weak", x.ofLayer(0, 0, 2), WEAK);
        int weakHardness = x.ofLayer(0, 0, 1);
        Check.same("2: the lowest hardened by noons", weakHardness, 8);
        hours(x, 1, 0, 7);
        layers("2: eight again", x, 8);
        layer("2: the two lowest", x, 0, 300, 8, WEAK);
        Check.same("2: the third is the second", x.ofLayer(0, 1, 0), 297);
        Check.same("2: the top one", x.ofLayer(0, 7, 0), 7);
        hours(x, 1, 0, 0);
        hours(x, 1, 0, 8);
        layer("2: no deeper than 300, the smaller hardness", x, 0, 300, 8, WEAK);
        Check.same("2: the fourth is the second", x.ofLayer(0, 1, 0), 1);
        Check.same("2: all", x.ofRun(0, 2), 300 + 1 + 2 + 3 + 4 + 5 + 7 + 8);
    }

    private static void slides() {
        Pistekeeper x = steep(3);
        hours(x, 1, 0, 5);
        hours(x, 1, -12, 0);
        Check.same("(9) none yet", x.pass(1, 0, 9, 0, 0, 0), 0);
        Check.same("(9) the risk", x.ofRun(0, 4), 74);
        x.test(0);
        x.sweep(0);
        Check.same("(9) one", x.pass(1, 0, 9, 0, 0, 0), 1);
        layers("(9) all is gone", x, 0);
        Check.same("(9) of the run", x.ofRun(0, 12), 1);
        Check.same("(9) of all", x.many(8), 1);
        Check.same("(9) it did not reach the road", x.many(9), 0);
        Check.same("(9) not tested any more", x.ofRun(0, 9), -1);
        Check.same("(9) not swept any more", x.ofRun(0, 13), 0);
        Check.same("(9) no accident", x.many(10), 0);
        Pistekeeper edge = new Pistekeeper();
        edge.lift(10, 3);
        edge.run(0, 0, 44, 0, 1);
        edge.run(0, 0, 24, 0, 1);
        edge.run(0, 0, 25, 0, 1);
        hours(edge, 1, 0, 5);
        hours(edge, 1, -12, 0);
        hours(edge, 1, 0, 9);
        Check.same("9: no slide below 100", edge.pass(1, 0, 3, 0, 0, 0), 0);
        Check.same("9: the risk at 44", edge.ofRun(0, 4), 96);
        Check.same("9: none below 25", edge.ofRun(1, 4), 0);
        Check.same("9: at 25", edge.ofRun(2, 4), 20);
        Check.same("9: a slide", edge.pass(1, 0, 1, 0, 0, 0), 1);
    }

    /** An open run on which snow grows until it slides. */
    private static Pistekeeper doomed(int area) {
        Pistekeeper x = steep(area);
        x.turn(0, true);
        hours(x, 4, 0, 9);
        hours(x, 1, 0, 0);
        Check.same("(9) it tells", x.test(0), 3);
        x.sweep(0);
        Check.same("(9) it opens", x.open(0), 0);
        return x;
    }

    private static void accident() {
        Pistekeeper x = doomed(6);
        Check.same("(9) not up to 17", x.pass(12, 0, 9, 0, 0, 0), 0);
        Check.same("(9) the risk at 17", x.ofRun(0, 4), 96);
        Check.same("(9) still open", x.ofRun(0, 6), 1);
        Check.same("(9) at 18", x.pass(1, 0, 9, 0, 0, 0), 1);
        Check.same("(9) an accident", x.many(10), 1);
        Check.same("(9) closed", x.ofRun(0, 6), 0);
        Check.same("(9) 153 times 6 reaches the road", x.many(9), 1);
        Check.state("(9) it can not be closed", () -> x.close(0));
        Pistekeeper small = doomed(5);
        small.pass(13, 0, 9, 0, 0, 0);
        Check.same("(9) an accident, too", small.many(10), 1);
        Check.same("(9) 153 times 5 does not", small.many(9), 0);
    }

    /** Lift 0 with three runs, lift 1 with one, all deep enough, tested, swept and open, at the clock of 8. */
    private static Pistekeeper skied(int capacity, int area) {
        Pistekeeper x = new Pistekeeper();
        x.lift(capacity, 5);
        x.lift(50, 9);
        x.run(1, 0, 5, 0, area);
        x.run(0, 0, 5, 0, area);
        x.run(0, 0, 5, 0, area);
        x.run(0, 0, 5, 0, area);
        x.turn(0, true);
        x.turn(1, true);
        hours(x, 8, 0, 9);
        for (int run = 0; run < 4; run++) {
            x.test(run);
            x.sweep(run);
            Check.same("skied: opens", x.open(run), 0);
        }
        return x;
    }

    private static void skiersShare() {
        Pistekeeper x = skied(101, 9);
        x.crowd(131);
        hours(x, 1, 0, 0);
        Check.same("2: rides of lift 0", x.ofLift(0, 4), 101);
        Check.same("2: rides of lift 1", x.ofLift(1, 4), 30);
        Check.same("2: rides", x.many(12), 131);
        Check.same("2: none waited", x.many(13), 0);
        Check.same("2: the smallest number has what is left over", x.ofRun(1, 11), 35);
        Check.same("2: the second", x.ofRun(2, 11), 33);
        Check.same("2: the third", x.ofRun(3, 11), 33);
        Check.same("2: the other lift's", x.ofRun(0, 11), 30);
        x.close(1);
        x.crowd(1000);
        hours(x, 1, 0, 0);
        Check.same("2: 101 of two: 51", x.ofRun(2, 11), 84);
        Check.same("2: 101 of two: 50", x.ofRun(3, 11), 83);
        Check.same("2: a closed one has none", x.ofRun(1, 11), 35);
        Check.same("2: lift 1 has its capacity", x.ofLift(1, 4), 80);
        Check.same("2: the others waited", x.many(13), 849);
        Check.same("2: the skiers stay as told", x.many(7), 1000);
    }

    private static void skiersWait() {
        Pistekeeper x = skied(100, 9);
        x.crowd(10);
        hours(x, 24, 0, 0);
        Check.same("2: eight hours a day", x.many(12), 80);
        Check.same("2: nobody waited", x.many(13), 0);
        x.turn(0, false);
        x.turn(1, false);
        hours(x, 1, 0, 0);
        Check.same("2: no lift is on", x.many(13), 10);
        x.turn(0, true);
        x.pass(1, 0, 0, 6, 1, 0);
        Check.same("2: held in the same hour", x.many(13), 20);
        Check.same("2: held", x.ofLift(0, 3), 1);
        Check.same("2: no rides by that", x.many(12), 80);
        hours(x, 7, 0, 0);
        Check.same("2: from 9 to 16", x.many(13), 80);
        Pistekeeper none = new Pistekeeper();
        none.crowd(5000);
        hours(none, 8, 0, 0);
        Check.same("2: not up to 8", none.many(13), 0);
        hours(none, 8, 0, 0);
        Check.same("2: up to 16", none.many(13), 40000);
        hours(none, 16, 0, 0);
        Check.same("2: not from 17 to 8", none.many(13), 40000);
    }

    private static void wear() {
        Pistekeeper x = skied(999, 9);
        x.close(2);
        x.close(3);
        x.crowd(199);
        hours(x, 1, 0, 0);
        Check.same("2: 199 wear nothing", x.ofRun(1, 2), 72);
        x.crowd(1);
        hours(x, 1, 0, 0);
        Check.same("2: the 200th does", x.ofRun(1, 2), 71);
        x.crowd(999);
        hours(x, 1, 0, 0);
        Check.same("2: used", x.ofRun(1, 11), 1199);
        Check.same("2: 400, 600, 800, 1000", x.ofRun(1, 2), 67);
        Pistekeeper thin = skied(999, 9);
        thin.close(0);
        thin.close(2);
        thin.close(3);
        hours(thin, 1, 0, 2);
        hours(thin, 1, 1, 1);
        hours(thin, 1, 1, 1);
        Check.same("2: still one layer", thin.ofRun(1, 1), 1);
        Check.same("2: wet snow", thin.ofRun(1, 3), 1);
        Check.same("2: and what is left", thin.ofRun(1, 2), 72);
        hours(thin, 1, -3, 0);
        hours(thin, 1, 0, 2);
        Check.same("2: two layers", thin.ofRun(1, 1), 2);
        thin.crowd(999);
        hours(thin, 1, 0, 0);
        Check.same("2: the top one is worn off", thin.ofRun(1, 1), 1);
        Check.same("2: the others wear the next one", thin.ofRun(1, 2), 70);
    }

    private static void calls() {
        Pistekeeper x = skied(999, 1);
        x.close(0);
        x.close(2);
        x.close(3);
        x.crowd(40);
        hours(x, 1, 0, 0);
        Check.same("2: 40 a unit are no call", x.many(11), 0);
        x.crowd(41);
        hours(x, 1, 0, 0);
        Check.same("2: 41 are one", x.many(11), 1);
        x.crowd(999);
        hours(x, 1, 0, 0);
        Check.same("2: one an hour", x.many(11), 2);
        x.crowd(0);
        hours(x, 1, 1, 1);
        hours(x, 1, -3, 0);
        Check.same("2: crust", x.ofLayer(1, 0, 2), CRUST);
        x.crowd(99);
        hours(x, 1, 0, 0);
        Check.same("2: one, and one for 50 on crust", x.many(11), 4);
        x.crowd(49);
        hours(x, 1, 0, 0);
        Check.same("2: just the one", x.many(11), 5);
        Pistekeeper wide = skied(999, 9);
        wide.close(0);
        wide.close(2);
        wide.close(3);
        hours(wide, 1, 1, 1);
        hours(wide, 1, -3, 0);
        wide.crowd(360);
        hours(wide, 1, 0, 0);
        Check.same("2: no crowd, but seven on crust", wide.many(11), 7);
        wide.crowd(0);
        for (int times = 0; times < 2; times++) {
            hours(wide, 24, 0, 0);
        }
        Check.same("2: none without skiers", wide.many(11), 7);
    }
}
