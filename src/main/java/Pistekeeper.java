/** A mountain that is skied on. */
public final class Pistekeeper {
    private static final int NONE = -1;
    private static final int MOST_LIFTS = 4;
    private static final int MOST_RUNS = 8;
    private static final int MOST_LAYERS = 8;
    private static final int MOST_HOURS = 48;
    private static final int LATEST_NOW = 9999;
    private static final int MOST_WATER = 5000;
    private static final int MOST_SKIERS = 5000;
    private static final int MOST_GUNS = 9;
    private static final int DEEPEST = 300;
    private static final int HARDEST = 100;
    private static final int GREATEST_RISK = 999;
    private static final int RISK_TO_BLAST = 40;
    private static final int RISK_TO_SLIDE = 100;
    private static final int SIZE_TO_ROAD = 900;
    private static final int FIRST_WATER = 500;
    private static final int FIRST_CHARGES = 50;
    private static final int FIRST_FUEL = 100;
    private static final int FUEL_TO_GROOM = 5;
    private static final int DUD_EVERY = 7;
    private static final int HOURS_TESTED = 12;
    private static final int DUD_ANSWER = -2;

    private static final int SNOW = 0;
    private static final int WEAK = 1;
    private static final int CRUST = 2;
    private static final int MADE = 3;

    private final Mountain mountain;
    // What would be is played out on these two, made once, so that asking makes no objects.
    private final Mountain trial;
    private final Mountain bare;
    private final Weather weather;

    /** Creates a mountain without lifts. */
    public Pistekeeper() {
        mountain = new Mountain();
        trial = new Mountain();
        bare = new Mountain();
        weather = new Weather();
    }

    // ---- what is told

    /** Tells a lift; returns its number. */
    public int lift(int capacity, int limit) throws IllegalArgumentException, IllegalStateException {
        requireWithin(capacity, 10, 999);
        requireWithin(limit, 3, 9);
        if (mountain.liftCount >= MOST_LIFTS) {
            throw new IllegalStateException("no more lifts");
        }
        int number = mountain.liftCount;
        mountain.lifts[number].capacity = capacity;
        mountain.lifts[number].limit = limit;
        mountain.liftCount++;
        return number;
    }

    /** Tells a run; returns its number. */
    public int run(int lift, int height, int slope, int aspect, int area)
            throws IndexOutOfBoundsException, IllegalArgumentException, IllegalStateException {
        requireLift(lift);
        requireWithin(height, 0, 30);
        requireWithin(slope, 5, 45);
        requireWithin(aspect, 0, 3);
        requireWithin(area, 1, 9);
        if (mountain.runCount >= MOST_RUNS) {
            throw new IllegalStateException("no more runs");
        }
        int number = mountain.runCount;
        Run told = mountain.runs[number];
        told.lift = lift;
        told.height = height;
        told.slope = slope;
        told.aspect = aspect;
        told.area = area;
        mountain.runCount++;
        return number;
    }

    /** Switches a lift; returns whether it was on. */
    public boolean turn(int lift, boolean isOn) throws IndexOutOfBoundsException {
        requireLift(lift);
        boolean wasOn = mountain.lifts[lift].isOn;
        mountain.lifts[lift].isOn = isOn;
        return wasOn;
    }

    /** Ends the hold of a lift; returns whether it was held. */
    public boolean release(int lift) throws IndexOutOfBoundsException, IllegalStateException {
        requireLift(lift);
        Lift released = mountain.lifts[lift];
        if (mountain.latestWind > released.limit - 2) {
            throw new IllegalStateException("too much wind");
        }
        boolean wasHeld = released.isHeld;
        released.isHeld = false;
        return wasHeld;
    }

    /** Tells how many guns a run has; returns how many before. */
    public int guns(int run, int guns) throws IndexOutOfBoundsException, IllegalArgumentException {
        requireRun(run);
        requireWithin(guns, 0, MOST_GUNS);
        int before = mountain.runs[run].guns;
        mountain.runs[run].guns = guns;
        return before;
    }

    /** Fills the lake; returns the water then. */
    public int fill(int much) throws IllegalArgumentException {
        requireWithin(much, 1, MOST_WATER);
        mountain.water = Math.min(mountain.water + much, MOST_WATER);
        return mountain.water;
    }

    /** Tells how many skiers there are; returns how many before. */
    public int crowd(int skiers) throws IllegalArgumentException {
        requireWithin(skiers, 0, MOST_SKIERS);
        int before = mountain.skiers;
        mountain.skiers = skiers;
        return before;
    }

    /** Lets hours go by; returns how many slides there were. */
    public int pass(int hours, int warmth, int fall, int wind, int from, int humid)
            throws IllegalArgumentException, IllegalStateException {
        requireWithin(hours, 1, MOST_HOURS);
        requireWithin(warmth, -20, 20);
        requireWithin(fall, 0, 9);
        requireWithin(wind, 0, 9);
        requireWithin(from, 0, 3);
        requireWithin(humid, 0, 100);
        if (mountain.now + hours > LATEST_NOW) {
            throw new IllegalStateException("too late");
        }
        int slidesBefore = mountain.slides;
        weather.tell(warmth, fall, wind, from, humid);
        for (int hour = 0; hour < hours; hour++) {
            mountain.passHour(weather);
        }
        return mountain.slides - slidesBefore;
    }

    // ---- what is done

    /** Blasts a run; returns the size of the slide, 0 without one, -2 for a dud. */
    public int blast(int run) throws IndexOutOfBoundsException, IllegalStateException {
        requireClosed(run);
        if (mountain.charges < 1) {
            throw new IllegalStateException("no charges");
        }
        Run blasted = mountain.runs[run];
        mountain.charges--;
        if ((FIRST_CHARGES - mountain.charges) % DUD_EVERY == 0) {
            blasted.duds++;
            return DUD_ANSWER;
        }
        return blasted.risk() >= RISK_TO_BLAST ? mountain.slideOn(blasted) : 0;
    }

    /** Searches a run for a dud; returns how many are left there. */
    public int search(int run) throws IndexOutOfBoundsException, IllegalStateException {
        requireRun(run);
        Run searched = mountain.runs[run];
        if (searched.duds < 1) {
            throw new IllegalStateException("no duds");
        }
        searched.duds--;
        return searched.duds;
    }

    /** Tests a run; returns what it tells. */
    public int test(int run) throws IndexOutOfBoundsException {
        requireRun(run);
        Run tested = mountain.runs[run];
        tested.told = mountain.wouldTell(run, tested);
        tested.testedUntil = mountain.now + HOURS_TESTED;
        return tested.told;
    }

    /** Sweeps a run; returns whether it was not swept. */
    public boolean sweep(int run) throws IndexOutOfBoundsException, IllegalStateException {
        requireClosed(run);
        boolean wasSwept = mountain.runs[run].isSwept;
        mountain.runs[run].isSwept = true;
        return !wasSwept;
    }

    /** Tells whether a run is winched; returns whether it was. */
    public boolean winch(int run, boolean is) throws IndexOutOfBoundsException, IllegalStateException {
        requireClosed(run);
        boolean wasWinched = mountain.runs[run].isWinched;
        mountain.runs[run].isWinched = is;
        return wasWinched;
    }

    /** Grooms a run; returns the depth of the new layer. */
    public int groom(int run) throws IndexOutOfBoundsException, IllegalStateException {
        requireClosed(run);
        Snow snow = mountain.runs[run].snow;
        int clock = mountain.clock();
        if (snow.count < 2 || clock > 6 && clock < 18) {
            throw new IllegalStateException("not two layers, or by day");
        }
        if (mountain.fuel < FUEL_TO_GROOM) {
            throw new IllegalStateException("not so much fuel");
        }
        mountain.fuel -= FUEL_TO_GROOM;
        return snow.pressTop();
    }

    /** Opens a run, if it may; returns what bars it, 0 if it is open now. */
    public int open(int run) throws IndexOutOfBoundsException, IllegalStateException {
        requireClosed(run);
        Run opened = mountain.runs[run];
        int bar = mountain.barNow(opened);
        if (bar == 0) {
            opened.isOpen = true;
            opened.openSince = mountain.now;
        }
        return bar;
    }

    /** Closes a run; returns for how many hours it was open. */
    public int close(int run) throws IndexOutOfBoundsException, IllegalStateException {
        requireRun(run);
        Run closed = mountain.runs[run];
        if (!closed.isOpen) {
            throw new IllegalStateException("not open");
        }
        closed.isOpen = false;
        closed.isSwept = false;
        return mountain.now - closed.openSince;
    }

    // ---- what is asked

    /** Tells a number of a run. */
    public int ofRun(int run, int what) throws IndexOutOfBoundsException, IllegalArgumentException {
        requireRun(run);
        requireWithin(what, 0, 13);
        Run asked = mountain.runs[run];
        switch (what) {
            case 0: return asked.lift;
            case 1: return asked.snow.count;
            case 2: return asked.snow.wholeDepth();
            case 3: return oneIf(asked.snow.isWet);
            case 4: return asked.risk();
            case 5: return asked.shear();
            case 6: return oneIf(asked.isOpen);
            case 7: return asked.duds;
            case 8: return mountain.barNow(asked);
            case 9: return mountain.isTested(asked) ? asked.told : NONE;
            case 10: return asked.heap;
            case 11: return asked.used;
            case 12: return asked.slides;
            default: return oneIf(asked.isSwept);
        }
    }

    /** Tells a number of a layer of a run. */
    public int ofLayer(int run, int layer, int what) throws IndexOutOfBoundsException, IllegalArgumentException {
        requireRun(run);
        Snow snow = mountain.runs[run].snow;
        if (layer < 0 || layer >= snow.count) {
            throw new IndexOutOfBoundsException("no such layer");
        }
        requireWithin(what, 0, 2);
        switch (what) {
            case 0: return snow.depth[layer];
            case 1: return snow.hardness[layer];
            default: return snow.kind[layer];
        }
    }

    /** Tells a number of a lift. */
    public int ofLift(int lift, int what) throws IndexOutOfBoundsException, IllegalArgumentException {
        requireLift(lift);
        requireWithin(what, 0, 5);
        Lift asked = mountain.lifts[lift];
        switch (what) {
            case 0: return asked.capacity;
            case 1: return asked.limit;
            case 2: return oneIf(asked.isOn);
            case 3: return oneIf(asked.isHeld);
            case 4: return asked.rides;
            default: return mountain.openRunsOf(lift);
        }
    }

    /** Tells a number of the whole mountain. */
    public int many(int what) throws IllegalArgumentException {
        requireWithin(what, 0, 14);
        switch (what) {
            case 0: return mountain.now;
            case 1: return mountain.liftCount;
            case 2: return mountain.runCount;
            case 3: return mountain.openRuns();
            case 4: return mountain.water;
            case 5: return mountain.charges;
            case 6: return mountain.fuel;
            case 7: return mountain.skiers;
            case 8: return mountain.slides;
            case 9: return mountain.reached;
            case 10: return mountain.accidents;
            case 11: return mountain.calls;
            case 12: return mountain.rides;
            case 13: return mountain.waited;
            default: return mountain.depthByArea();
        }
    }

    /** Tells the mean depth of all runs, each by its area. */
    public double meanDepth() {
        int area = mountain.wholeArea();
        return area < 1 ? 0.0 : (double) mountain.depthByArea() / area;
    }

    // ---- what would be

    /** Tells the greatest risk that a run would have in the next hours. */
    public int wouldRisk(int run, int hours, int warmth, int fall)
            throws IndexOutOfBoundsException, IllegalArgumentException {
        requireRun(run);
        requireWithin(hours, 1, MOST_HOURS);
        requireWithin(warmth, -20, 20);
        requireWithin(fall, 0, 9);
        weather.tell(warmth, fall, 0, 0, 100);
        trial.become(mountain);
        int greatest = 0;
        for (int hour = 0; hour < hours; hour++) {
            trial.passHour(weather);
            greatest = Math.max(greatest, trial.runs[run].latestRisk);
        }
        return greatest;
    }

    /** Tells how much more depth a run would have with its guns than without any. */
    public int wouldMake(int run, int hours, int warmth, int humid)
            throws IndexOutOfBoundsException, IllegalArgumentException {
        requireRun(run);
        requireWithin(hours, 1, MOST_HOURS);
        requireWithin(warmth, -20, 20);
        requireWithin(humid, 0, 100);
        if (mountain.runs[run].guns < 1) {
            // Both plays would be the same one.
            return 0;
        }
        weather.tell(warmth, 0, 0, 0, humid);
        bare.become(mountain);
        bare.removeGuns();
        trial.become(bare);
        trial.runs[run].guns = mountain.runs[run].guns;
        for (int hour = 0; hour < hours; hour++) {
            trial.passHour(weather);
            bare.passHour(weather);
        }
        return trial.runs[run].snow.wholeDepth() - bare.runs[run].snow.wholeDepth();
    }

    /** Tells which run is to be blasted next. */
    public int nextBlast() {
        int next = NONE;
        int greatest = 0;
        for (int number = 0; number < mountain.runCount; number++) {
            Run each = mountain.runs[number];
            boolean mayBe = !each.isOpen && each.duds == 0 && each.risk() >= RISK_TO_BLAST;
            int size = mayBe ? each.sizeFrom(each.shear()) : 0;
            if (size > greatest) {
                greatest = size;
                next = number;
            }
        }
        return next;
    }

    /** Tells the set of runs that could open, if tested and swept. */
    public int couldOpen() {
        int set = 0;
        for (int number = 0; number < mountain.runCount; number++) {
            Run each = mountain.runs[number];
            int toTell = mountain.wouldTell(number, each);
            boolean could = mountain.barNow(each) == 0 || mountain.bar(each, true, toTell, true) == 0;
            if (!each.isOpen && could) {
                set |= 1 << number;
            }
        }
        return set;
    }

    /** Computes a checksum. */
    public long digest() {
        long d = 58212;
        for (int what = 0; what <= 14; what++) {
            d = d * 31 + many(what);
        }
        for (int run = 0; run < mountain.runCount; run++) {
            for (int what = 0; what <= 13; what++) {
                d = d * 31 + ofRun(run, what);
            }
            d = digestLayers(d, run);
            d = d * 31 + wouldRisk(run, 12, -6, 3);
            d = d * 31 + wouldMake(run, 9, -9, 60);
        }
        for (int lift = 0; lift < mountain.liftCount; lift++) {
            for (int what = 0; what <= 5; what++) {
                d = d * 31 + ofLift(lift, what);
            }
        }
        d = d * 31 + nextBlast();
        return d * 31 + couldOpen();
    }

    private long digestLayers(long before, int run) {
        long d = before;
        int layers = ofRun(run, 1);
        for (int layer = 0; layer < layers; layer++) {
            for (int what = 0; what <= 2; what++) {
                d = d * 31 + ofLayer(run, layer, what);
            }
        }
        return d;
    }

    private static int oneIf(boolean holds) {
        return holds ? 1 : 0;
    }

    private static void requireWithin(int value, int least, int most) {
        if (value < least || value > most) {
            throw new IllegalArgumentException("out of its bounds");
        }
    }

    private void requireLift(int lift) {
        if (lift < 0 || lift >= mountain.liftCount) {
            throw new IndexOutOfBoundsException("no such lift");
        }
    }

    private void requireRun(int run) {
        if (run < 0 || run >= mountain.runCount) {
            throw new IndexOutOfBoundsException("no such run");
        }
    }

    private void requireClosed(int run) {
        requireRun(run);
        if (mountain.runs[run].isOpen) {
            throw new IllegalStateException("the run is open");
        }
    }

    /** What all hours of one call have in common. */
    private static final class Weather {
        int warmth;
        int fall;
        int wind;
        int from;
        int humid;

        void tell(int newWarmth, int newFall, int newWind, int newFrom, int newHumid) {
            warmth = newWarmth;
            fall = newFall;
            wind = newWind;
            from = newFrom;
            humid = newHumid;
        }
    }

    private static final class Lift {
        int capacity;
        int limit;
        boolean isOn;
        boolean isHeld;
        int rides;

        void become(Lift other) {
            capacity = other.capacity;
            limit = other.limit;
            isOn = other.isOn;
            isHeld = other.isHeld;
            rides = other.rides;
        }

        boolean isMoving() {
            return isOn && !isHeld;
        }
    }

    /** The layers of one run, the lowest at 0. */
    private static final class Snow {
        final int[] depth;
        final int[] hardness;
        final int[] kind;
        int count;
        boolean isWet;
        boolean hasSnowed;

        Snow() {
            depth = new int[MOST_LAYERS];
            hardness = new int[MOST_LAYERS];
            kind = new int[MOST_LAYERS];
        }

        void become(Snow other) {
            System.arraycopy(other.depth, 0, depth, 0, MOST_LAYERS);
            System.arraycopy(other.hardness, 0, hardness, 0, MOST_LAYERS);
            System.arraycopy(other.kind, 0, kind, 0, MOST_LAYERS);
            count = other.count;
            isWet = other.isWet;
            hasSnowed = other.hasSnowed;
        }

        boolean topIs(int wanted) {
            return count > 0 && kind[count - 1] == wanted;
        }

        int wholeDepth() {
            return depthFrom(0);
        }

        int depthFrom(int lowest) {
            int sum = 0;
            for (int layer = Math.max(lowest, 0); layer < count; layer++) {
                sum += depth[layer];
            }
            return sum;
        }

        void thicken(int much) {
            if (count > 0) {
                depth[count - 1] = Math.min(depth[count - 1] + much, DEEPEST);
            }
        }

        void thin(int much) {
            if (count < 1) {
                return;
            }
            depth[count - 1] -= much;
            if (depth[count - 1] < 1) {
                count--;
                isWet = false;
            }
        }

        void melt(int much) {
            thin(much);
            isWet = count > 0;
        }

        void lay(int newKind, int newDepth, int newHardness) {
            if (count >= MOST_LAYERS) {
                joinLowest();
            }
            kind[count] = newKind;
            depth[count] = newDepth;
            hardness[count] = newHardness;
            count++;
            isWet = false;
        }

        void joinLowest() {
            depth[0] = Math.min(depth[0] + depth[1], DEEPEST);
            hardness[0] = Math.min(hardness[0], hardness[1]);
            for (int layer = 1; layer + 1 < MOST_LAYERS; layer++) {
                depth[layer] = depth[layer + 1];
                hardness[layer] = hardness[layer + 1];
                kind[layer] = kind[layer + 1];
            }
            count--;
        }

        void changeTop(int newKind, int newHardness) {
            if (count > 0) {
                kind[count - 1] = newKind;
                hardness[count - 1] = newHardness;
            }
        }

        int pressTop() {
            if (count < 2) {
                return 0;
            }
            int top = count - 1;
            int lower = count - 2;
            depth[lower] = Math.min((depth[lower] + depth[top]) * 9 / 10, DEEPEST);
            hardness[lower] = Math.min(Math.max(hardness[lower], hardness[top]) + 10, HARDEST);
            kind[lower] = MADE;
            count = top;
            isWet = false;
            return depth[lower];
        }

        /** How hard the layers above press on a layer, before any bound on it. */
        int stress(int layer, int above, int slope) {
            int hold = hardness[layer] + 1;
            if (hold < 1) {
                return 0;
            }
            int stress = above * (slope - 20) / hold;
            return kind[layer] == WEAK ? 2 * stress : stress;
        }

        int shear(int slope) {
            if (slope < 25) {
                return NONE;
            }
            int shear = NONE;
            int greatest = 0;
            int above = 0;
            for (int layer = count - 1; layer >= 0; layer--) {
                int stress = stress(layer, above, slope);
                // An equal one counts, for of several the lowest layer is the shear.
                if (stress > 0 && stress >= greatest) {
                    greatest = stress;
                    shear = layer;
                }
                above += depth[layer];
            }
            return shear;
        }

        int risk(int slope) {
            int shear = shear(slope);
            return shear == NONE ? 0 : Math.min(stress(shear, depthFrom(shear + 1), slope), GREATEST_RISK);
        }

        void dropFrom(int lowest) {
            if (lowest >= 0 && lowest < count) {
                count = lowest;
                isWet = false;
            }
        }

        void comeDown(int fall, int temp) {
            boolean snows = fall > 0 && temp <= 0;
            if (snows && hasSnowed && topIs(SNOW)) {
                thicken(fall);
            } else if (snows) {
                lay(SNOW, fall, 10);
            } else if (fall > 0) {
                melt(fall);
            }
            hasSnowed = snows;
        }

        void drift(int much, boolean isLee, boolean isWindward) {
            if (isLee && topIs(SNOW)) {
                thicken(much);
            } else if (isLee) {
                lay(SNOW, much, 20);
            } else if (isWindward && topIs(SNOW)) {
                thin(much);
            }
        }

        void freeze() {
            if (isWet) {
                changeTop(CRUST, 80);
                isWet = false;
            }
        }

        void growWeak() {
            if (topIs(SNOW) && depth[count - 1] <= 10) {
                changeTop(WEAK, 5);
            }
        }

        void settle(boolean isNoon) {
            for (int layer = 0; layer < count; layer++) {
                boolean sets = kind[layer] == SNOW || kind[layer] == MADE || kind[layer] == WEAK && isNoon;
                if (sets) {
                    hardness[layer] = Math.min(hardness[layer] + 1, HARDEST);
                }
            }
        }
    }

    private static final class Run {
        final Snow snow;
        int lift;
        int height;
        int slope;
        int aspect;
        int area;
        int guns;
        int heap;
        int used;
        int slides;
        int duds;
        int told;
        int testedUntil;
        int openSince;
        int latestRisk;
        boolean isOpen;
        boolean isWinched;
        boolean isSwept;

        Run() {
            snow = new Snow();
            testedUntil = NONE;
        }

        void become(Run other) {
            snow.become(other.snow);
            lift = other.lift;
            height = other.height;
            slope = other.slope;
            aspect = other.aspect;
            area = other.area;
            guns = other.guns;
            heap = other.heap;
            used = other.used;
            slides = other.slides;
            duds = other.duds;
            told = other.told;
            testedUntil = other.testedUntil;
            openSince = other.openSince;
            latestRisk = other.latestRisk;
            isOpen = other.isOpen;
            isWinched = other.isWinched;
            isSwept = other.isSwept;
        }

        int risk() {
            return snow.risk(slope);
        }

        int shear() {
            return snow.shear(slope);
        }

        int sizeFrom(int shear) {
            return shear == NONE ? 0 : snow.depthFrom(shear) * area;
        }

        /** The steps (2) to (7) of an hour, which need nothing but the run itself. */
        void weatherSnow(Weather weather, int temp, int clock) {
            boolean isDry = weather.fall == 0;
            snow.comeDown(weather.fall, temp);
            if (weather.wind > 4 && (isDry || temp <= 0)) {
                snow.drift(weather.wind - 4, aspect == (weather.from + 2) % 4, aspect == weather.from);
            }
            if (isDry && clock >= 10 && clock <= 15 && (aspect == 2 || temp > 2)) {
                snow.melt(1);
            }
            if (temp <= -3) {
                snow.freeze();
            }
            if (isDry && clock <= 5 && temp <= -12) {
                snow.growWeak();
            }
            snow.settle(clock == 12);
        }
    }

    private static final class Mountain {
        final Lift[] lifts;
        final Run[] runs;
        int liftCount;
        int runCount;
        int now;
        int latestWind;
        int water;
        int charges;
        int fuel;
        int skiers;
        int slides;
        int reached;
        int accidents;
        int calls;
        int rides;
        int waited;

        Mountain() {
            lifts = new Lift[MOST_LIFTS];
            for (int number = 0; number < MOST_LIFTS; number++) {
                lifts[number] = new Lift();
            }
            runs = new Run[MOST_RUNS];
            for (int number = 0; number < MOST_RUNS; number++) {
                runs[number] = new Run();
            }
            water = FIRST_WATER;
            charges = FIRST_CHARGES;
            fuel = FIRST_FUEL;
        }

        void become(Mountain other) {
            liftCount = other.liftCount;
            for (int number = 0; number < liftCount; number++) {
                lifts[number].become(other.lifts[number]);
            }
            runCount = other.runCount;
            for (int number = 0; number < runCount; number++) {
                runs[number].become(other.runs[number]);
            }
            now = other.now;
            latestWind = other.latestWind;
            water = other.water;
            charges = other.charges;
            fuel = other.fuel;
            skiers = other.skiers;
            slides = other.slides;
            reached = other.reached;
            accidents = other.accidents;
            calls = other.calls;
            rides = other.rides;
            waited = other.waited;
        }

        void removeGuns() {
            for (int number = 0; number < runCount; number++) {
                runs[number].guns = 0;
            }
        }

        int clock() {
            return now % 24;
        }

        int openRuns() {
            int open = 0;
            for (int number = 0; number < runCount; number++) {
                open += oneIf(runs[number].isOpen);
            }
            return open;
        }

        int openRunsOf(int lift) {
            int open = 0;
            for (int number = 0; number < runCount; number++) {
                open += oneIf(runs[number].isOpen && runs[number].lift == lift);
            }
            return open;
        }

        int depthByArea() {
            int sum = 0;
            for (int number = 0; number < runCount; number++) {
                sum += runs[number].snow.wholeDepth() * runs[number].area;
            }
            return sum;
        }

        int wholeArea() {
            int sum = 0;
            for (int number = 0; number < runCount; number++) {
                sum += runs[number].area;
            }
            return sum;
        }

        boolean isTested(Run run) {
            return now <= run.testedUntil;
        }

        int wouldTell(int number, Run run) {
            int error = (5 * now + 3 * number) % 9 - 4;
            return Math.max(run.risk() + error, 0);
        }

        int barNow(Run run) {
            return bar(run, isTested(run), run.told, run.isSwept);
        }

        /** The first thing that bars a run, if it were tested with what was told, and swept, as said. */
        int bar(Run run, boolean tested, int told, boolean swept) {
            boolean isServed = run.lift >= 0 && run.lift < liftCount && lifts[run.lift].isMoving();
            if (!isServed) {
                return 1;
            }
            if (run.duds > 0) {
                return 2;
            }
            if (run.isWinched) {
                return 3;
            }
            if (!tested) {
                return 4;
            }
            if (told > 30) {
                return 5;
            }
            if (run.snow.wholeDepth() < 30) {
                return 6;
            }
            return swept ? 0 : 7;
        }

        int slideOn(Run run) {
            int shear = run.shear();
            int size = run.sizeFrom(shear);
            run.snow.dropFrom(shear);
            run.testedUntil = NONE;
            run.isSwept = false;
            run.slides++;
            slides++;
            if (size >= SIZE_TO_ROAD) {
                reached++;
            }
            return size;
        }

        void passHour(Weather weather) {
            now++;
            latestWind = weather.wind;
            for (int number = 0; number < runCount; number++) {
                Run run = runs[number];
                int temp = weather.warmth - run.height / 2;
                run.weatherSnow(weather, temp, clock());
                makeSnow(run, temp - (100 - weather.humid) / 10);
                run.latestRisk = run.risk();
                if (run.latestRisk >= RISK_TO_SLIDE) {
                    accidents += oneIf(run.isOpen);
                    run.isOpen = false;
                    slideOn(run);
                }
            }
            holdLifts(weather.wind);
            if (clock() >= 9 && clock() <= 16) {
                carrySkiers();
            }
        }

        void holdLifts(int wind) {
            for (int number = 0; number < liftCount; number++) {
                if (wind > lifts[number].limit) {
                    lifts[number].isHeld = true;
                }
            }
        }

        void makeSnow(Run run, int bulb) {
            if (bulb <= -4) {
                int each = Math.min(-3 - bulb, 6);
                for (int gun = 0; gun < run.guns && water >= 105; gun++) {
                    water -= 5;
                    run.heap += each;
                }
            }
            int made = run.area < 1 ? 0 : run.heap / run.area;
            run.heap -= made * run.area;
            if (made > 0 && run.snow.topIs(MADE)) {
                run.snow.thicken(made);
            } else if (made > 0) {
                run.snow.lay(MADE, made, 40);
            }
        }

        void carrySkiers() {
            int left = skiers;
            for (int number = 0; number < liftCount; number++) {
                int open = openRunsOf(number);
                if (lifts[number].isMoving() && open > 0) {
                    int taken = Math.min(lifts[number].capacity, left);
                    left -= taken;
                    rides += taken;
                    lifts[number].rides += taken;
                    shareOut(number, taken, open);
                }
            }
            waited += left;
        }

        void shareOut(int lift, int taken, int open) {
            if (open < 1) {
                return;
            }
            int extra = taken % open;
            for (int number = 0; number < runCount; number++) {
                if (runs[number].isOpen && runs[number].lift == lift) {
                    skiOn(runs[number], taken / open + extra);
                    extra = 0;
                }
            }
        }

        void skiOn(Run run, int riders) {
            boolean wasCrust = run.snow.topIs(CRUST);
            int wear = (run.used + riders) / 200 - run.used / 200;
            run.used += riders;
            for (int time = 0; time < wear; time++) {
                run.snow.thin(1);
            }
            calls += oneIf(riders > 40 * run.area);
            calls += wasCrust ? riders / 50 : 0;
        }
    }
}
