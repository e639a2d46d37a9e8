/**
 * Promises 2 to 24: of every number that is handed in, the first and the last value that are taken, and the values
 * beside them that are refused, which changes nothing.
 */
public final class BoundsTest {
    private static final int LEAST = Integer.MIN_VALUE;
    private static final int MOST = Integer.MAX_VALUE;
    private static final int LIFTS = 2;
    private static final int RUNS = 4;

    private interface CallOf {
        void on(Pistekeeper x, int number);
    }

    public static void main(String[] args) {
        lift();
        liftTaken();
        run();
        runTaken();
        turnAndRelease();
        guns();
        fill();
        crowd();
        pass();
        passTaken();
        passDampTaken();
        whatIsDone();
        ofRun();
        ofLayer();
        ofLayerOfNone();
        ofLift();
        many();
        wouldRisk();
        wouldMake();
        Check.end("BoundsTest");
    }

    /** Beside first and last, and far from them, a value is refused; these two are taken. */
    private static void values(String what, int first, int last, CallOf call) {
        int[] bad = {LEAST, first - 1, last + 1, MOST};
        for (int value : bad) {
            Twins.argument(what + " " + value, Scene::busy, x -> call.on(x, value));
        }
        taken(what, first, call);
        taken(what, last, call);
    }

    /** There are so many of them, from 0. */
    private static void numbers(String what, int many, CallOf call) {
        int[] bad = {LEAST, -1, many, MOST};
        for (int number : bad) {
            Twins.index(what + " " + number, Scene::busy, x -> call.on(x, number));
        }
        taken(what, 0, call);
        taken(what, many - 1, call);
    }

    // A call may still be refused by what a number finds, but never for the number itself.
    private static void taken(String what, int number, CallOf call) {
        boolean isTaken = true;
        try {
            call.on(Scene.busy(), number);
        } catch (IndexOutOfBoundsException | IllegalArgumentException e) {
            isTaken = false;
        } catch (IllegalStateException e) {
            isTaken = true;
        }
        Check.same(what + " " + number + " is taken", isTaken, true);
    }

    private static void lift() {
        values("2: 'capacity is not 10 to 999':", 10, 999, (x, v) -> x.lift(v, 5));
        values("2: 'limit not 3 to 9':", 3, 9, (x, v) -> x.lift(100, v));
    }

    private static void liftTaken() {
        Pistekeeper x = new Pistekeeper();
        x.lift(10, 3);
        x.lift(999, 9);
        Check.same("2: the least capacity", x.ofLift(0, 0), 10);
        Check.same("2: the least limit", x.ofLift(0, 1), 3);
        Check.same("2: the greatest capacity", x.ofLift(1, 0), 999);
        Check.same("2: the greatest limit", x.ofLift(1, 1), 9);
    }

    private static void run() {
        numbers("3: 'no such LIFT':", LIFTS, (x, v) -> x.run(v, 1, 30, 1, 1));
        values("3: 'height is not 0 to 30':", 0, 30, (x, v) -> x.run(0, v, 30, 1, 1));
        values("3: 'slope not 5 to 45':", 5, 45, (x, v) -> x.run(0, 1, v, 1, 1));
        values("3: 'aspect not 0 to 3':", 0, 3, (x, v) -> x.run(0, 1, 30, v, 1));
        values("3: 'area not 1 to 9':", 1, 9, (x, v) -> x.run(0, 1, 30, 1, v));
    }

    /** The least and the greatest HEIGHT, SLOPE, ASPECT and AREA are what the RUN goes by. */
    private static void runTaken() {
        Pistekeeper x = new Pistekeeper();
        x.lift(100, 9);
        x.run(0, 0, 5, 0, 1);
        x.run(0, 30, 45, 3, 9);
        Scene.hours(x, 1, 15, 2);
        Check.same("3: height 0: rain at 15", x.ofRun(0, 1), 0);
        Check.same("3: height 30: snow at 15", x.ofRun(1, 2), 2);
        Check.same("3: area 9", x.many(14), 18);
        Scene.hours(x, 1, 0, 0);
        x.pass(1, 0, 1, 5, 2, 100);
        Check.same("3: aspect 0, wind from 2", x.ofRun(0, 2), 1 + 1);
        Check.same("3: aspect 3, wind from 2", x.ofRun(1, 2), 2 + 1);
        Check.same("3: area 1 and area 9", x.many(14), 2 + 27);
        Scene.hours(x, 1, 0, 0);
        x.pass(1, 0, 2, 5, 1, 100);
        Check.same("3: aspect 0, wind from 1", x.ofRun(0, 2), 2 + 2);
        Check.same("3: aspect 3, wind from 1", x.ofRun(1, 2), 3 + 2 + 1);
        Check.same("3: slope 5 has no risk", x.ofRun(0, 4), 0);
        Check.same("3: slope 45: 4 above weak snow", x.ofRun(1, 4), 2 * (4 * 25 / 6));
    }

    private static void turnAndRelease() {
        numbers("4: 'no such LIFT':", LIFTS, (x, v) -> x.turn(v, true));
        numbers("5: 'no such LIFT':", LIFTS, (x, v) -> x.release(v));
    }

    private static void guns() {
        numbers("6: 'no such RUN':", RUNS, (x, v) -> x.guns(v, 1));
        values("6: 'guns is not 0 to 9':", 0, 9, (x, v) -> x.guns(3, v));
        Pistekeeper x = Scene.busy();
        Check.same("6: how many before", x.guns(3, 9), 5);
        Check.same("6: the most", x.guns(3, 0), 9);
        Check.same("6: the least", x.guns(3, 1), 0);
    }

    private static void fill() {
        values("7: 'much is not 1 to 5000':", 1, 5000, (x, v) -> x.fill(v));
        Pistekeeper x = new Pistekeeper();
        Check.same("7: the least", x.fill(1), 501);
        Check.same("7: the most", x.fill(5000), 5000);
    }

    private static void crowd() {
        values("8: 'skiers is not 0 to 5000':", 0, 5000, (x, v) -> x.crowd(v));
        Pistekeeper x = new Pistekeeper();
        Check.same("8: none at first", x.crowd(5000), 0);
        Check.same("8: the most", x.crowd(0), 5000);
        Check.same("8: the least", x.crowd(1), 0);
    }

    private static void pass() {
        values("9: 'hours is not 1 to 48':", 1, 48, (x, v) -> x.pass(v, 0, 0, 0, 0, 50));
        values("9: 'warmth not -20 to 20':", -20, 20, (x, v) -> x.pass(1, v, 0, 0, 0, 50));
        values("9: 'fall [not 0 to 9]':", 0, 9, (x, v) -> x.pass(1, 0, v, 0, 0, 50));
        values("9: 'wind not 0 to 9':", 0, 9, (x, v) -> x.pass(1, 0, 0, v, 0, 50));
        values("9: 'from not 0 to 3':", 0, 3, (x, v) -> x.pass(1, 0, 0, 0, v, 50));
        values("9: 'humid not 0 to 100':", 0, 100, (x, v) -> x.pass(1, 0, 0, 0, 0, v));
    }

    /** The least and the greatest of each number are what the hours go by. */
    private static void passTaken() {
        Pistekeeper x = Scene.oneRun(5, 1, 1);
        x.pass(1, 0, 0, 0, 0, 100);
        Check.same("9: the least hours", x.many(0), 1);
        x.pass(48, 0, 0, 0, 0, 100);
        Check.same("9: the most hours", x.many(0), 49);
        Check.same("9: the least fall is none", x.ofRun(0, 1), 0);
        x.pass(1, 0, 9, 0, 0, 100);
        Check.same("9: the most fall", x.ofRun(0, 2), 9);
        x.pass(1, 0, 0, 9, 3, 100);
        Check.same("9: the most wind, from the last side", x.ofRun(0, 2), 14);
        x.pass(1, 0, 0, 9, 0, 100);
        Check.same("9: the most wind, from the first side", x.ofRun(0, 2), 14);
        x.pass(1, 20, 2, 0, 0, 100);
        Check.same("9: the greatest warmth: rain", x.ofRun(0, 2), 12);
        x.pass(1, -20, 0, 0, 0, 100);
        Check.same("9: the least warmth: crust", x.ofLayer(0, 0, 2), 2);
        Pistekeeper high = new Pistekeeper();
        high.lift(10, 3);
        high.run(0, 30, 5, 0, 1);
        high.pass(1, 20, 2, 0, 0, 100);
        Check.same("9: the greatest warmth, at a height of 30: 5, rain", high.ofRun(0, 1), 0);
    }

    private static void passDampTaken() {
        int[][] humidWarmthWater = {{0, 7, 500}, {0, 6, 495}, {100, -3, 500}, {100, -4, 495}};
        for (int[] each : humidWarmthWater) {
            Pistekeeper x = Scene.flat();
            x.guns(0, 1);
            x.pass(1, each[1], 0, 0, 0, each[0]);
            Check.same("9: humid " + each[0] + ", warmth " + each[1], x.many(4), each[2]);
        }
    }

    private static void whatIsDone() {
        numbers("10: 'no such RUN':", RUNS, (x, v) -> x.blast(v));
        numbers("11: 'no such RUN':", RUNS, (x, v) -> x.search(v));
        numbers("12: 'no such RUN':", RUNS, (x, v) -> x.test(v));
        numbers("13: 'no such RUN':", RUNS, (x, v) -> x.sweep(v));
        numbers("14: 'no such RUN':", RUNS, (x, v) -> x.winch(v, true));
        numbers("15: 'no such RUN':", RUNS, (x, v) -> x.groom(v));
        numbers("16: 'no such RUN':", RUNS, (x, v) -> x.open(v));
        numbers("17: 'no such RUN':", RUNS, (x, v) -> x.close(v));
    }

    private static void ofRun() {
        numbers("18: 'no such RUN':", RUNS, (x, v) -> x.ofRun(v, 0));
        values("18: 'what is not 0 to 13':", 0, 13, (x, v) -> x.ofRun(3, v));
        Pistekeeper x = Scene.busy();
        Check.same("18: the first what", x.ofRun(2, 0), 1);
        Check.same("18: the last what", x.ofRun(1, 13), 1);
    }

    private static void ofLayer() {
        int layers = Scene.busy().ofRun(1, 1);
        Check.same("19: there are layers", layers >= 2, true);
        numbers("19: 'no such RUN':", RUNS, (x, v) -> x.ofLayer(v, 0, 0));
        numbers("19: 'or LAYER':", layers, (x, v) -> x.ofLayer(1, v, 0));
        values("19: 'what is not 0 to 2':", 0, 2, (x, v) -> x.ofLayer(1, 0, v));
    }

    /** A RUN without LAYERS has no first one; one of eight has the eighth, and no ninth. */
    private static void ofLayerOfNone() {
        Twins.index("19: no layers at all", Scene::flat, x -> x.ofLayer(0, 0, 0));
        Pistekeeper one = Scene.flat();
        Scene.hours(one, 1, 0, 7);
        Check.same("19: the first", one.ofLayer(0, 0, 0), 7);
        Check.index("19: no second", () -> one.ofLayer(0, 1, 0));
        Pistekeeper eight = Scene.flat();
        for (int layer = 1; layer <= 8; layer++) {
            Scene.snow(eight, layer);
        }
        Check.same("19: the eighth", eight.ofLayer(0, 7, 0), 8);
        Check.index("19: no ninth", () -> eight.ofLayer(0, 8, 0));
        Scene.hours(eight, 1, 1, 8);
        Check.same("19: the seventh, as the eighth is gone", eight.ofLayer(0, 6, 0), 7);
        Check.index("19: what is gone is no layer", () -> eight.ofLayer(0, 7, 0));
    }

    private static void ofLift() {
        numbers("20: 'no such LIFT':", LIFTS, (x, v) -> x.ofLift(v, 0));
        values("20: 'what is not 0 to 5':", 0, 5, (x, v) -> x.ofLift(1, v));
        Pistekeeper x = Scene.busy();
        Check.same("20: the first what", x.ofLift(1, 0), 50);
        Check.same("20: the last what", x.ofLift(0, 5), 1);
    }

    private static void many() {
        values("21: 'what is not 0 to 14':", 0, 14, (x, v) -> x.many(v));
        Pistekeeper x = Scene.busy();
        int byArea = 2 * x.ofRun(0, 2) + 3 * x.ofRun(1, 2) + x.ofRun(2, 2) + 4 * x.ofRun(3, 2);
        Check.same("21: the first what", x.many(0), 12);
        Check.same("21: the last what", x.many(14), byArea);
    }

    private static void wouldRisk() {
        numbers("23: 'no such RUN':", RUNS, (x, v) -> x.wouldRisk(v, 1, 0, 0));
        values("23: 'hours is not 1 to 48':", 1, 48, (x, v) -> x.wouldRisk(1, v, 0, 0));
        values("23: 'warmth not -20 to 20':", -20, 20, (x, v) -> x.wouldRisk(1, 1, v, 0));
        values("23: 'fall not 0 to 9':", 0, 9, (x, v) -> x.wouldRisk(1, 1, 0, v));
        // The risk of 33 grows to 63, and falls with each hour without fall.
        Pistekeeper x = Scene.loaded(45, 2, 3);
        Check.same("23: the least hours, without fall", x.wouldRisk(0, 1, 0, 0), 21 * 25 / 17);
        Check.same("23: the most fall", x.wouldRisk(0, 1, 0, 9), 30 * 25 / 17);
        Check.same("23: the least warmth", x.wouldRisk(0, 1, -20, 9), 30 * 25 / 17);
        Check.same("23: the greatest warmth", x.wouldRisk(0, 1, 20, 9), 12 * 25 / 17);
        // In hour m from now there are 21 + 2m above a hardness of 15 + m, settled to 100 at most.
        Check.same("23: the most hours", x.wouldRisk(0, 48, 0, 2), (21 + 2 * 48) * 25 / (16 + 48));
    }

    private static void wouldMake() {
        numbers("24: 'no such RUN':", RUNS, (x, v) -> x.wouldMake(v, 1, 0, 0));
        values("24: 'hours is not 1 to 48':", 1, 48, (x, v) -> x.wouldMake(1, v, 0, 0));
        values("24: 'warmth not -20 to 20':", -20, 20, (x, v) -> x.wouldMake(1, 1, v, 0));
        values("24: 'humid not 0 to 100':", 0, 100, (x, v) -> x.wouldMake(1, 1, 0, v));
        Pistekeeper x = Scene.flat();
        x.guns(0, 1);
        Check.same("24: the least hours", x.wouldMake(0, 1, -4, 100), 1);
        Check.same("24: the most hours", x.wouldMake(0, 48, -4, 100), 48);
        Check.same("24: the least warmth", x.wouldMake(0, 1, -20, 100), 6);
        Check.same("24: the greatest warmth, the least humid", x.wouldMake(0, 48, 20, 0), 0);
        Check.same("24: the least humid is 10 colder", x.wouldMake(0, 1, 6, 0), 1);
        Check.same("24: not at 7", x.wouldMake(0, 1, 7, 0), 0);
        Check.same("24: the greatest humid is not colder", x.wouldMake(0, 1, -3, 100), 0);
    }
}
