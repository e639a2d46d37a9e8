import java.util.Random;

/** Random runs of calls, the same on each run of this test, are held against the plain mountain. */
public final class ModelTest {
    private static final int OBJECTS = 1200;
    private static final int CALLS = 512;

    private interface Answer {
        long of();
    }

    private final Random random;
    private final Pistekeeper real = new Pistekeeper();
    private final PlainMountain plain = new PlainMountain();
    private final int seed;
    private final int manner;
    private int done;
    private boolean differs;

    private ModelTest(int seed) {
        this.seed = seed;
        this.random = new Random(seed * 7919L + 17);
        this.manner = seed % 4;
    }

    public static void main(String[] args) {
        for (int seed = 0; seed < OBJECTS; seed++) {
            new ModelTest(seed).play();
        }
        rarePlacesWereSeen();
        Check.end("ModelTest");
    }

    private static void rarePlacesWereSeen() {
        PlainMountain.Seen s = PlainMountain.seen;
        int[] all = {
            s.joins, s.gusts, s.fades, s.weaks, s.crusts, s.slides, s.accidents, s.reached, s.crustCalls, s.crowdCalls,
            s.wornOff, s.duds, s.blasted, s.dry, s.capped, s.melted, s.made, s.madeOn, s.mixedOpen, s.rained,
            s.harmfulGuns, s.shearTies
        };
        StringBuilder text = new StringBuilder("  seen:");
        for (int i = 0; i < all.length; i++) {
            text.append(' ').append(all[i]);
            Check.same("the runs came by rare place " + i, all[i] >= 3, true);
        }
        System.out.println(text);
    }

    private void play() {
        setUp();
        while (done < CALLS && !differs) {
            step();
        }
    }

    private void setUp() {
        int lifts = 1 + random.nextInt(4);
        for (int i = 0; i < lifts; i++) {
            tellLift();
            int lift = i;
            same("turn on " + i, () -> real.turn(lift, true) ? 1 : 0, () -> plain.turn(lift, true));
        }
        int runs = 1 + random.nextInt(8);
        for (int i = 0; i < runs; i++) {
            tellRun();
        }
        int skiers = random.nextInt(5001);
        same("crowd " + skiers, () -> real.crowd(skiers), () -> plain.crowd(skiers));
    }

    private void step() {
        int kind = random.nextInt(100);
        if (kind < 30) {
            pass();
        } else if (kind < 54) {
            act();
        } else if (kind < 58) {
            prepare();
        } else if (kind < 70) {
            tell();
        } else if (kind < 90) {
            ask();
        } else {
            wouldBe();
        }
    }

    /** A number of lo to hi, now and then one outside. */
    private int number(int lo, int hi) {
        if (random.nextInt(60) > 0) {
            return hi < lo ? lo : lo + random.nextInt(hi - lo + 1);
        }
        switch (random.nextInt(4)) {
            case 0: return lo - 1;
            case 1: return hi + 1;
            case 2: return Integer.MIN_VALUE;
            default: return Integer.MAX_VALUE;
        }
    }

    private int aRun() {
        return number(0, plain.runs() - 1);
    }

    private int aLift() {
        return number(0, plain.lifts() - 1);
    }

    private void tellLift() {
        int capacity = random.nextBoolean() ? number(10, 999) : number(10, 120);
        int limit = number(3, 9);
        same("lift " + capacity + " " + limit, () -> real.lift(capacity, limit), () -> plain.lift(capacity, limit));
    }

    private void tellRun() {
        int lift = aLift();
        int height = random.nextBoolean() ? number(0, 30) : number(0, 8);
        int slope = random.nextBoolean() ? number(5, 45) : number(23, 45);
        int aspect = number(0, 3);
        int area = number(1, 9);
        same("run " + lift + " " + height + " " + slope + " " + aspect + " " + area,
                () -> real.run(lift, height, slope, aspect, area),
                () -> plain.run(lift, height, slope, aspect, area));
    }

    private void pass() {
        boolean isLong = manner == 3 || random.nextInt(12) == 0;
        int hours = isLong ? number(1, 48) : number(1, 7);
        int[] mids = {-12, -6, -1, 3, 6};
        int warmth = random.nextInt(4) == 0 ? number(-20, 20) : mids[random.nextInt(mids.length)] + random.nextInt(3) - 1;
        int fall = random.nextInt(5) < 2 ? 0 : number(0, 9);
        int wind = random.nextBoolean() ? number(0, 4) : number(0, 9);
        int from = number(0, 3);
        int humid = random.nextBoolean() ? 100 : number(0, 100);
        same("pass " + hours + " " + warmth + " " + fall + " " + wind + " " + from + " " + humid,
                () -> real.pass(hours, warmth, fall, wind, from, humid),
                () -> plain.pass(hours, warmth, fall, wind, from, humid));
    }

    private void act() {
        int run = aRun();
        switch (random.nextInt(9)) {
            case 0: same("blast " + run, () -> real.blast(run), () -> plain.blast(run)); break;
            case 1: same("search " + run, () -> real.search(run), () -> plain.search(run)); break;
            case 2: same("test " + run, () -> real.test(run), () -> plain.test(run)); break;
            case 3: same("sweep " + run, () -> real.sweep(run) ? 1 : 0, () -> plain.sweep(run)); break;
            case 4:
                boolean is = random.nextInt(5) == 0;
                same("winch " + run, () -> real.winch(run, is) ? 1 : 0, () -> plain.winch(run, is));
                break;
            case 5:
            case 6: same("groom " + run, () -> real.groom(run), () -> plain.groom(run)); break;
            case 7: same("open " + run, () -> real.open(run), () -> plain.open(run)); break;
            default: same("close " + run, () -> real.close(run), () -> plain.close(run)); break;
        }
    }

    /** All that a run needs to open, so that open runs are not rare. */
    private void prepare() {
        for (int i = 0; i < plain.lifts(); i++) {
            int lift = i;
            same("release " + i, () -> real.release(lift) ? 1 : 0, () -> plain.release(lift));
        }
        for (int i = 0; i < plain.runs(); i++) {
            int run = i;
            if (random.nextInt(3) > 0) {
                same("winch off " + i, () -> real.winch(run, false) ? 1 : 0, () -> plain.winch(run, false));
                same("search " + i, () -> real.search(run), () -> plain.search(run));
                same("test " + i, () -> real.test(run), () -> plain.test(run));
                same("sweep " + i, () -> real.sweep(run) ? 1 : 0, () -> plain.sweep(run));
                same("open " + i, () -> real.open(run), () -> plain.open(run));
            }
        }
    }

    private void tell() {
        switch (random.nextInt(8)) {
            case 0: tellLift(); break;
            case 1: tellRun(); break;
            case 2: {
                int lift = aLift();
                boolean on = random.nextInt(4) > 0;
                same("turn " + lift + " " + on, () -> real.turn(lift, on) ? 1 : 0, () -> plain.turn(lift, on));
                break;
            }
            case 3: {
                int lift = aLift();
                same("release " + lift, () -> real.release(lift) ? 1 : 0, () -> plain.release(lift));
                break;
            }
            case 4:
            case 5: {
                int run = aRun();
                int guns = number(0, 9);
                same("guns " + run + " " + guns, () -> real.guns(run, guns), () -> plain.guns(run, guns));
                break;
            }
            case 6: {
                int much = random.nextBoolean() ? number(1, 5000) : number(1, 100);
                same("fill " + much, () -> real.fill(much), () -> plain.fill(much));
                break;
            }
            default: {
                int skiers = random.nextBoolean() ? number(0, 5000) : number(0, 400);
                same("crowd " + skiers, () -> real.crowd(skiers), () -> plain.crowd(skiers));
                break;
            }
        }
    }

    private void ask() {
        int run = aRun();
        switch (random.nextInt(7)) {
            case 0:
            case 1: {
                int what = number(0, 13);
                same("ofRun " + run + " " + what, () -> real.ofRun(run, what), () -> plain.ofRun(run, what));
                break;
            }
            case 2: {
                int layer = number(0, 3);
                int what = number(0, 2);
                same("ofLayer " + run + " " + layer + " " + what,
                        () -> real.ofLayer(run, layer, what), () -> plain.ofLayer(run, layer, what));
                break;
            }
            case 3: {
                int lift = aLift();
                int what = number(0, 5);
                same("ofLift " + lift + " " + what, () -> real.ofLift(lift, what), () -> plain.ofLift(lift, what));
                break;
            }
            case 4: {
                int what = number(0, 14);
                same("many " + what, () -> real.many(what), () -> plain.many(what));
                break;
            }
            case 5:
                same("meanDepth", () -> Double.doubleToLongBits(real.meanDepth()),
                        () -> Double.doubleToLongBits(plain.meanDepth()));
                break;
            default: same("digest", real::digest, plain::digest); break;
        }
    }

    private void wouldBe() {
        int run = aRun();
        int hours = random.nextInt(3) == 0 ? number(1, 48) : number(1, 12);
        int warmth = random.nextBoolean() ? number(-20, 20) : number(-12, 2);
        switch (random.nextInt(4)) {
            case 0: {
                int fall = number(0, 9);
                same("wouldRisk " + run + " " + hours + " " + warmth + " " + fall,
                        () -> real.wouldRisk(run, hours, warmth, fall),
                        () -> plain.wouldRisk(run, hours, warmth, fall));
                break;
            }
            case 1: {
                int humid = number(0, 100);
                same("wouldMake " + run + " " + hours + " " + warmth + " " + humid,
                        () -> real.wouldMake(run, hours, warmth, humid),
                        () -> plain.wouldMake(run, hours, warmth, humid));
                break;
            }
            case 2: same("nextBlast", real::nextBlast, plain::nextBlast); break;
            default: same("couldOpen", real::couldOpen, plain::couldOpen); break;
        }
    }

    private void same(String call, Answer got, Answer due) {
        if (differs || done >= CALLS) {
            return;
        }
        done++;
        long is;
        try {
            is = got.of();
        } catch (RuntimeException e) {
            is = code(e);
        }
        long want = due.of();
        Check.same("object " + seed + ", call " + done + ": " + call, is, want);
        differs = is != want;
    }

    // The very classes: what the machine throws is of classes below these, and is always wrong.
    private static long code(RuntimeException e) {
        if (e.getClass() == IndexOutOfBoundsException.class) {
            return PlainMountain.INDEX;
        }
        if (e.getClass() == IllegalArgumentException.class) {
            return PlainMountain.ARGUMENT;
        }
        if (e.getClass() == IllegalStateException.class) {
            return PlainMountain.STATE;
        }
        System.out.println("  threw " + e);
        return Long.MIN_VALUE;
    }
}
