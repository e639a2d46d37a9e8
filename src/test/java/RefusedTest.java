/**
 * What is full, empty, open or too late, so that a call is refused; which exception it is, if several apply ("the one
 * that is named first is thrown"); and that behind it nothing has changed.
 */
public final class RefusedTest {
    public static void main(String[] args) {
        liftsAreFull();
        runsAreFull();
        tooMuchWind();
        tooLate();
        noCharges();
        blastOfAnOpenOne();
        noDuds();
        openOnes();
        groomedInTheMorning();
        groomedInTheEvening();
        groomedWithoutLayers();
        groomedWithoutFuel();
        notOpen();
        orderOfLift();
        orderOfRun();
        orderOfGuns();
        orderOfPass();
        orderOfWhatIsDone();
        orderOfWhatIsAsked();
        orderOfWhatWouldBe();
        asksChangeNothing();
        Check.end("RefusedTest");
    }

    private static void liftsAreFull() {
        Pistekeeper x = new Pistekeeper();
        for (int lift = 0; lift < 3; lift++) {
            x.lift(10, 3);
        }
        Check.same("2: the fourth is taken", x.lift(10, 3), 3);
        Twins.state("2: 'if there are 4'", Scene::full, y -> y.lift(10, 3));
    }

    private static void runsAreFull() {
        Pistekeeper x = new Pistekeeper();
        x.lift(10, 3);
        for (int run = 0; run < 7; run++) {
            x.run(0, 0, 5, 0, 1);
        }
        Check.same("3: the eighth is taken", x.run(0, 0, 5, 0, 1), 7);
        Twins.state("3: 'if there are 8'", Scene::full, y -> y.run(0, 0, 5, 0, 1));
    }

    /** 'if the WIND of the latest HOUR (0 ahead of all) was above its LIMIT less 2'. */
    private static void tooMuchWind() {
        for (int limit = 3; limit <= 9; limit++) {
            Pistekeeper ahead = new Pistekeeper();
            ahead.lift(10, limit);
            Check.same("5: ahead of all hours, limit " + limit, ahead.release(0), false);
            releasedAt(limit, limit - 2);
            int wind = limit - 1;
            int most = limit;
            Twins.state("5: limit " + limit + ", wind " + wind, () -> windy(most, wind), x -> x.release(0));
            Twins.state("5: a wind of 9", () -> windy(most, 9), x -> x.release(0));
        }
        Twins.state("5: at the limit itself", () -> windy(5, 5), x -> x.release(0));
        Pistekeeper x = windy(5, 9);
        x.pass(2, 0, 0, 3, 0, 100);
        Check.same("5: just the latest hour counts", x.release(0), true);
    }

    private static void releasedAt(int limit, int wind) {
        Pistekeeper x = windy(limit, wind);
        Check.same("5: limit " + limit + ", wind " + wind, x.release(0), limit < 9);
        Check.same("5: it is held no more", x.ofLift(0, 3), 0);
        Check.same("5: it was not held", x.release(0), false);
    }

    /** A lift that is held, if any wind can do that, and a latest hour with this wind. */
    private static Pistekeeper windy(int limit, int wind) {
        Pistekeeper x = new Pistekeeper();
        x.lift(10, limit);
        x.run(0, 0, 5, 0, 1);
        x.pass(1, 0, 3, 9, 1, 100);
        x.pass(1, 0, 3, wind, 1, 100);
        Check.same("scene: held with a limit below 9", x.ofLift(0, 3), limit < 9 ? 1 : 0);
        return x;
    }

    /** 'if NOW would be above 9999'. */
    private static void tooLate() {
        Pistekeeper x = Scene.late(9951);
        Check.same("9: 48 hours up to 9999", x.pass(48, 0, 0, 0, 0, 100), 0);
        Check.same("9: now", x.many(0), 9999);
        Twins.state("9: 48 hours up to 10000", () -> Scene.late(9952), y -> y.pass(48, 0, 0, 0, 0, 100));
        Twins.state("9: 2 hours up to 10000", () -> Scene.late(9998), y -> y.pass(2, 0, 0, 0, 0, 100));
        Twins.state("9: an hour up to 10000", () -> Scene.late(9999), y -> y.pass(1, 0, 0, 0, 0, 100));
        Pistekeeper last = Scene.late(9998);
        Check.same("9: an hour up to 9999", last.pass(1, 0, 0, 0, 0, 100), 0);
        Check.same("9: now, too", last.many(0), 9999);
    }

    private static void noCharges() {
        Pistekeeper x = Scene.blasted(42);
        Check.same("10: a charge is left", x.many(5), 1);
        Check.same("10: the last one is taken", x.blast(1), 0);
        Check.same("10: none is left", x.many(5), 0);
        Twins.state("10: 'there are no CHARGES'", () -> Scene.blasted(43), y -> y.blast(1));
        Twins.state("10: none for another run either", () -> Scene.blasted(43), y -> y.blast(3));
        Twins.state("10: no charges, and it is open", () -> Scene.blasted(43), y -> y.blast(0));
    }

    private static void blastOfAnOpenOne() {
        Twins.state("10: 'if it is OPEN'", Scene::busy, x -> x.blast(0));
        Twins.state("10: an open one, ahead of a dud", () -> Scene.blasted(6), x -> x.blast(0));
        Pistekeeper x = Scene.blasted(6);
        Check.state("10: it is open", () -> x.blast(0));
        Check.same("10: a refused one is none of seven", x.blast(1), -2);
    }

    private static void noDuds() {
        Twins.state("11: 'if there are none'", Scene::busy, x -> x.search(1));
        Pistekeeper x = Scene.busy();
        Check.same("11: the last one is found", x.search(2), 0);
        Check.state("11: 'if there are none', any more", () -> x.search(2));
        Check.same("11: none are none", x.ofRun(2, 7), 0);
    }

    private static void openOnes() {
        Twins.state("13: 'if it is OPEN'", Scene::busy, x -> x.sweep(0));
        Twins.state("14: 'if it is OPEN', on", Scene::busy, x -> x.winch(0, true));
        Twins.state("14: 'if it is OPEN', off", Scene::busy, x -> x.winch(0, false));
        Twins.state("16: 'if it is OPEN'", Scene::busy, x -> x.open(0));
        Twins.state("16: 'if it is OPEN', and barred", RefusedTest::openAndBarred, x -> x.open(0));
        Pistekeeper x = Scene.busy();
        x.close(0);
        Check.same("13: a closed one", x.sweep(0), true);
        Check.same("14: a closed one", x.winch(0, false), false);
        Check.same("16: a closed one", x.open(0), 0);
    }

    private static Pistekeeper openAndBarred() {
        Pistekeeper x = Scene.busy();
        x.turn(0, false);
        return x;
    }

    /** Two layers, at this clock. */
    private static Pistekeeper twoLayersAt(int clock) {
        Pistekeeper x = Scene.flat();
        Scene.snow(x, 9);
        Scene.snow(x, 5);
        Scene.until(x, clock);
        return x;
    }

    /** 'with a CLOCK of 18 to 23 or 0 to 6'. */
    private static void groomedInTheMorning() {
        Check.same("15: at 0", twoLayersAt(0).groom(0), 12);
        Check.same("15: at 6", twoLayersAt(6).groom(0), 12);
        Twins.state("15: at 7", () -> twoLayersAt(7), x -> x.groom(0));
        Twins.state("15: at 12", () -> twoLayersAt(12), x -> x.groom(0));
    }

    private static void groomedInTheEvening() {
        Twins.state("15: at 17", () -> twoLayersAt(17), x -> x.groom(0));
        Check.same("15: at 18", twoLayersAt(18).groom(0), 12);
        Check.same("15: at 23", twoLayersAt(23).groom(0), 12);
    }

    /** 'with two LAYERS or more'. */
    private static void groomedWithoutLayers() {
        Twins.state("15: at NOW 0, without layers", Scene::flat, x -> x.groom(0));
        Twins.state("15: one layer", RefusedTest::oneLayer, x -> x.groom(0));
        Pistekeeper x = oneLayer();
        Scene.snow(x, 1);
        Check.same("15: two layers", x.groom(0), 9);
        Check.state("15: they are one now", () -> x.groom(0));
        Twins.state("15: 'one that is not OPEN'", RefusedTest::openWithTwo, y -> y.groom(0));
        Pistekeeper closed = openWithTwo();
        closed.close(0);
        Check.same("15: as soon as it is closed", closed.groom(0), 32);
    }

    private static Pistekeeper oneLayer() {
        Pistekeeper x = Scene.flat();
        Scene.hours(x, 1, 0, 9);
        return x;
    }

    private static Pistekeeper openWithTwo() {
        Pistekeeper x = Scene.flat();
        Scene.snow(x, 18);
        Scene.snow(x, 18);
        Scene.open(x, 0);
        Check.same("scene: it is night", x.many(0), 6);
        return x;
    }

    /** 'That takes 5 of FUEL (100 at first)'; 'or there is not so much FUEL'. */
    private static void groomedWithoutFuel() {
        Pistekeeper x = Scene.groomed(19);
        Check.same("15: 5 of fuel are left", x.many(6), 5);
        Check.same("15: they are enough", x.groom(0), 9);
        Check.same("15: no fuel is left", x.many(6), 0);
        Twins.state("15: 'not so much FUEL'", () -> Scene.groomed(20), y -> y.groom(0));
    }

    private static void notOpen() {
        Twins.state("17: 'if it is not OPEN'", Scene::busy, x -> x.close(1));
        Twins.state("17: an empty one", Scene::flat, x -> x.close(0));
        Pistekeeper x = Scene.busy();
        Check.same("17: an open one", x.close(0), 5);
        Check.state("17: it is closed", () -> x.close(0));
    }

    private static void orderOfLift() {
        Twins.argument("2: capacity ahead of four", Scene::full, x -> x.lift(9, 3));
        Twins.argument("2: limit ahead of four", Scene::full, x -> x.lift(10, 10));
    }

    private static void orderOfRun() {
        Twins.index("3: no lift ahead of a wrong height", Scene::busy, x -> x.run(2, 31, 5, 0, 1));
        Twins.index("3: no lift ahead of a wrong slope", Scene::busy, x -> x.run(2, 0, 4, 0, 1));
        Twins.index("3: no lift ahead of a wrong aspect", Scene::busy, x -> x.run(2, 0, 5, 4, 1));
        Twins.index("3: no lift ahead of a wrong area", Scene::busy, x -> x.run(-1, 0, 5, 0, 0));
        Twins.index("3: no lift ahead of eight", Scene::full, x -> x.run(4, 0, 5, 0, 1));
        Twins.index("3: no lift ahead of all", Scene::full, x -> x.run(4, -1, 46, -1, 10));
        Twins.argument("3: height ahead of eight", Scene::full, x -> x.run(3, -1, 5, 0, 1));
        Twins.argument("3: slope ahead of eight", Scene::full, x -> x.run(3, 0, 46, 0, 1));
        Twins.argument("3: aspect ahead of eight", Scene::full, x -> x.run(3, 0, 5, -1, 1));
        Twins.argument("3: area ahead of eight", Scene::full, x -> x.run(3, 0, 5, 0, 10));
    }

    private static void orderOfGuns() {
        Twins.index("6: no run ahead of wrong guns", Scene::busy, x -> x.guns(4, 10));
        Twins.index("6: no run ahead of wrong guns, below", Scene::busy, x -> x.guns(-1, -1));
    }

    private static void orderOfPass() {
        Twins.argument("9: hours ahead of 9999", () -> Scene.late(9999), x -> x.pass(49, 0, 0, 0, 0, 0));
        Twins.argument("9: no hours at 9999", () -> Scene.late(9999), x -> x.pass(0, 0, 0, 0, 0, 0));
        Twins.argument("9: warmth ahead of 9999", () -> Scene.late(9999), x -> x.pass(1, 21, 0, 0, 0, 0));
        Twins.argument("9: fall ahead of 9999", () -> Scene.late(9999), x -> x.pass(1, 0, 10, 0, 0, 0));
        Twins.argument("9: wind ahead of 9999", () -> Scene.late(9999), x -> x.pass(1, 0, 0, -1, 0, 0));
        Twins.argument("9: from ahead of 9999", () -> Scene.late(9999), x -> x.pass(1, 0, 0, 0, 4, 0));
        Twins.argument("9: humid ahead of 9999", () -> Scene.late(9999), x -> x.pass(1, 0, 0, 0, 0, 101));
        Twins.argument("9: more hours than fit an int", () -> Scene.late(9999),
                x -> x.pass(Integer.MAX_VALUE, 0, 0, 0, 0, 0));
    }

    private static void orderOfWhatIsDone() {
        Twins.index("10: no run ahead of no charges", () -> Scene.blasted(43), x -> x.blast(4));
        Twins.index("10: no run below, ahead of no charges", () -> Scene.blasted(43), x -> x.blast(-1));
        Twins.index("15: no run ahead of the clock", Scene::busy, x -> x.groom(4));
        Twins.index("15: no run ahead of no fuel", () -> Scene.groomed(20), x -> x.groom(1));
    }

    private static void orderOfWhatIsAsked() {
        Twins.index("18: no run ahead of a wrong what", Scene::busy, x -> x.ofRun(4, 14));
        Twins.index("18: no run ahead of a wrong what, below", Scene::busy, x -> x.ofRun(-1, -1));
        Twins.index("19: no run ahead of a wrong what", Scene::busy, x -> x.ofLayer(4, 0, 3));
        Twins.index("19: no layer ahead of a wrong what", Scene::busy, x -> x.ofLayer(1, 8, 3));
        Twins.index("19: no layer below, ahead of a wrong what", Scene::busy, x -> x.ofLayer(1, -1, -1));
        Twins.index("20: no lift ahead of a wrong what", Scene::busy, x -> x.ofLift(2, 6));
        Twins.index("20: no lift ahead of a wrong what, below", Scene::busy, x -> x.ofLift(-1, -1));
    }

    private static void orderOfWhatWouldBe() {
        Twins.index("23: no run ahead of wrong hours", Scene::busy, x -> x.wouldRisk(4, 0, 0, 0));
        Twins.index("23: no run ahead of a wrong warmth", Scene::busy, x -> x.wouldRisk(4, 1, 21, 0));
        Twins.index("23: no run ahead of a wrong fall", Scene::busy, x -> x.wouldRisk(-1, 1, 0, 10));
        Twins.index("24: no run ahead of wrong hours", Scene::busy, x -> x.wouldMake(4, 49, 0, 0));
        Twins.index("24: no run ahead of a wrong warmth", Scene::busy, x -> x.wouldMake(4, 1, -21, 0));
        Twins.index("24: no run ahead of a wrong humid", Scene::busy, x -> x.wouldMake(-1, 1, 0, 101));
    }

    /** 'what would be (nothing is changed ..)', and what is asked. */
    private static void asksChangeNothing() {
        Twins.asks("18: ofRun", Scene::busy, x -> x.ofRun(1, 8));
        Twins.asks("19: ofLayer", Scene::busy, x -> x.ofLayer(1, 0, 0));
        Twins.asks("20: ofLift", Scene::busy, x -> x.ofLift(1, 3));
        Twins.asks("21: many", Scene::busy, x -> x.many(14));
        Twins.asks("22: meanDepth", Scene::busy, x -> x.meanDepth());
        Twins.asks("23: wouldRisk", Scene::busy, x -> x.wouldRisk(2, 48, -20, 9));
        Twins.asks("24: wouldMake", Scene::busy, x -> x.wouldMake(3, 48, -20, 0));
        Twins.asks("25: nextBlast", Scene::busy, x -> x.nextBlast());
        Twins.asks("26: couldOpen", Scene::busy, x -> x.couldOpen());
        Twins.asks("27: digest", Scene::busy, x -> x.digest());
    }
}
