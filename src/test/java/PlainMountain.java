import java.util.ArrayList;
import java.util.List;

/**
 * A second mountain, written from the document alone and in another way: each call answers its number,
 * or one of the codes below for an exception. The model test holds the program against it.
 */
final class PlainMountain {
    static final long INDEX = Long.MIN_VALUE + 1;
    static final long ARGUMENT = Long.MIN_VALUE + 2;
    static final long STATE = Long.MIN_VALUE + 3;

    // How often the random runs came by the rare places of the document.
    static final class Seen {
        int joins, gusts, fades, weaks, crusts, slides, accidents, reached, crustCalls, crowdCalls, wornOff;
        int duds, blasted, dry, capped, melted, made, madeOn, mixedOpen, rained, harmfulGuns, shearTies;
    }

    static Seen seen = new Seen();
    private static boolean counts = true;

    private static final class Layer {
        int depth;
        int hard;
        final char kind;

        Layer(char kind, int depth, int hard) {
            this.kind = kind;
            this.depth = depth;
            this.hard = hard;
        }
    }

    private static final class Piste {
        int lift, height, slope, aspect, area;
        int guns, heap, used, slides, duds;
        boolean open, winched, wet, swept, snowedBefore;
        Integer toldValue;
        int toldAt;
        int openedAt;
        List<Layer> layers = new ArrayList<>();

        Piste copy() {
            Piste c = new Piste();
            c.lift = lift;
            c.height = height;
            c.slope = slope;
            c.aspect = aspect;
            c.area = area;
            c.guns = guns;
            c.heap = heap;
            c.used = used;
            c.slides = slides;
            c.duds = duds;
            c.open = open;
            c.winched = winched;
            c.wet = wet;
            c.swept = swept;
            c.snowedBefore = snowedBefore;
            c.toldValue = toldValue;
            c.toldAt = toldAt;
            c.openedAt = openedAt;
            for (Layer l : layers) {
                c.layers.add(new Layer(l.kind, l.depth, l.hard));
            }
            return c;
        }

        Layer top() {
            return layers.isEmpty() ? null : layers.get(layers.size() - 1);
        }

        void deepen(int by) {
            Layer t = top();
            if (t.depth + by > 300) {
                if (counts) {
                    seen.capped++;
                }
            }
            t.depth = Math.min(300, t.depth + by);
        }

        void shrink(int by) {
            Layer t = top();
            t.depth -= by;
            if (t.depth <= 0) {
                layers.remove(layers.size() - 1);
                wet = false;
            }
        }

        void add(char kind, int depth, int hard) {
            if (layers.size() == 8) {
                if (counts) {
                    seen.joins++;
                }
                Layer low = layers.remove(0);
                Layer next = layers.remove(0);
                layers.add(0, new Layer(low.kind, Math.min(300, low.depth + next.depth), Math.min(low.hard, next.hard)));
            }
            layers.add(new Layer(kind, depth, hard));
            wet = false;
        }

        /** Layer by layer the number that the RISK is the greatest of; the top one has none. */
        int[] stresses() {
            int[] s = new int[Math.max(0, layers.size() - 1)];
            if (slope < 25) {
                return s;
            }
            for (int i = 0; i < s.length; i++) {
                int above = 0;
                for (int j = layers.size() - 1; j > i; j--) {
                    above += layers.get(j).depth;
                }
                s[i] = Math.floorDiv(above * (slope - 20), layers.get(i).hard + 1);
                if (layers.get(i).kind == 'W') {
                    s[i] *= 2;
                }
            }
            return s;
        }

        int rawRisk() {
            int best = 0;
            for (int s : stresses()) {
                best = Math.max(best, s);
            }
            return best;
        }

        int risk() {
            return Math.min(999, rawRisk());
        }

        int shear() {
            int best = rawRisk();
            if (best == 0) {
                return -1;
            }
            int[] s = stresses();
            int first = -1;
            int many = 0;
            for (int i = 0; i < s.length; i++) {
                if (s[i] == best) {
                    many++;
                    if (first < 0) {
                        first = i;
                    }
                }
            }
            if (many > 1 && counts) {
                seen.shearTies++;
            }
            return first;
        }

        int slideSize() {
            int sum = 0;
            for (int i = shear(); i < layers.size(); i++) {
                sum += layers.get(i).depth;
            }
            return sum * area;
        }

        int depth() {
            int sum = 0;
            for (Layer l : layers) {
                sum += l.depth;
            }
            return sum;
        }
    }

    private static final class Cable {
        int capacity, limit, rides;
        boolean on, held;

        Cable copy() {
            Cable c = new Cable();
            c.capacity = capacity;
            c.limit = limit;
            c.rides = rides;
            c.on = on;
            c.held = held;
            return c;
        }
    }

    private List<Cable> cables = new ArrayList<>();
    private List<Piste> pistes = new ArrayList<>();
    private int now, windThen, water = 500, charges = 50, blasts, fuel = 100, skiers;
    private int slides, reached, accidents, calls, rides, waited;
    private int lastRiskAsked;

    private PlainMountain copy() {
        PlainMountain c = new PlainMountain();
        for (Cable each : cables) {
            c.cables.add(each.copy());
        }
        for (Piste each : pistes) {
            c.pistes.add(each.copy());
        }
        c.now = now;
        c.windThen = windThen;
        c.water = water;
        c.charges = charges;
        c.blasts = blasts;
        c.fuel = fuel;
        c.skiers = skiers;
        c.slides = slides;
        c.reached = reached;
        c.accidents = accidents;
        c.calls = calls;
        c.rides = rides;
        c.waited = waited;
        return c;
    }

    private static boolean out(int v, int lo, int hi) {
        return v < lo || hi < v;
    }

    private boolean noLift(int lift) {
        return out(lift, 0, cables.size() - 1);
    }

    private boolean noRun(int run) {
        return out(run, 0, pistes.size() - 1);
    }

    private int clock() {
        return Math.floorMod(now, 24);
    }

    int now() {
        return now;
    }

    int layersOf(int run) {
        return pistes.get(run).layers.size();
    }

    int lifts() {
        return cables.size();
    }

    int runs() {
        return pistes.size();
    }

    // ---- what is told

    long lift(int capacity, int limit) {
        if (out(capacity, 10, 999) || out(limit, 3, 9)) {
            return ARGUMENT;
        }
        if (cables.size() == 4) {
            return STATE;
        }
        Cable c = new Cable();
        c.capacity = capacity;
        c.limit = limit;
        cables.add(c);
        return cables.size() - 1;
    }

    long run(int lift, int height, int slope, int aspect, int area) {
        if (noLift(lift)) {
            return INDEX;
        }
        if (out(height, 0, 30) || out(slope, 5, 45) || out(aspect, 0, 3) || out(area, 1, 9)) {
            return ARGUMENT;
        }
        if (pistes.size() == 8) {
            return STATE;
        }
        Piste p = new Piste();
        p.lift = lift;
        p.height = height;
        p.slope = slope;
        p.aspect = aspect;
        p.area = area;
        pistes.add(p);
        return pistes.size() - 1;
    }

    long turn(int lift, boolean on) {
        if (noLift(lift)) {
            return INDEX;
        }
        boolean was = cables.get(lift).on;
        cables.get(lift).on = on;
        return was ? 1 : 0;
    }

    long release(int lift) {
        if (noLift(lift)) {
            return INDEX;
        }
        Cable c = cables.get(lift);
        if (windThen > c.limit - 2) {
            return STATE;
        }
        boolean was = c.held;
        c.held = false;
        return was ? 1 : 0;
    }

    long guns(int run, int guns) {
        if (noRun(run)) {
            return INDEX;
        }
        if (out(guns, 0, 9)) {
            return ARGUMENT;
        }
        int was = pistes.get(run).guns;
        pistes.get(run).guns = guns;
        return was;
    }

    long fill(int much) {
        if (out(much, 1, 5000)) {
            return ARGUMENT;
        }
        water = Math.min(5000, water + much);
        return water;
    }

    long crowd(int many) {
        if (out(many, 0, 5000)) {
            return ARGUMENT;
        }
        int was = skiers;
        skiers = many;
        return was;
    }

    long pass(int hours, int warmth, int fall, int wind, int from, int humid) {
        if (out(hours, 1, 48) || out(warmth, -20, 20) || out(fall, 0, 9) || out(wind, 0, 9)
                || out(from, 0, 3) || out(humid, 0, 100)) {
            return ARGUMENT;
        }
        if (now + hours > 9999) {
            return STATE;
        }
        int was = slides;
        for (int h = 1; h <= hours; h++) {
            hour(warmth, fall, wind, from, humid, -1);
        }
        return slides - was;
    }

    /** One HOUR; the RISK at (9) of the RUN that is asked for is left in lastRiskAsked. */
    private void hour(int warmth, int fall, int wind, int from, int humid, int asked) {
        now += 1;
        windThen = wind;
        for (int i = 0; i < pistes.size(); i++) {
            Piste p = pistes.get(i);
            int temp = warmth - p.height / 2;
            boolean rains = fall > 0 && temp > 0;
            two(p, temp, fall);
            if (wind > 4 && !rains) {
                three(p, wind - 4, from);
            }
            boolean sun = p.aspect == 2 || temp > 2;
            if (fall == 0 && !out(clock(), 10, 15) && sun && p.top() != null) {
                p.shrink(1);
                p.wet = !p.layers.isEmpty();
                if (counts) {
                    seen.melted++;
                }
            }
            fiveToSeven(p, temp, fall);
            eight(p, temp, humid);
            int risk = p.risk();
            if (i == asked) {
                lastRiskAsked = risk;
            }
            if (risk >= 100) {
                if (p.open) {
                    accidents++;
                    p.open = false;
                    if (counts) {
                        seen.accidents++;
                    }
                }
                slide(p);
            }
        }
        for (Cable c : cables) {
            if (wind > c.limit) {
                c.held = true;
            }
        }
        if (!out(clock(), 9, 16)) {
            ride();
        }
    }

    private void two(Piste p, int temp, int fall) {
        boolean snows = fall > 0 && temp <= 0;
        if (snows) {
            if (p.snowedBefore && p.top() != null && p.top().kind == 'S') {
                p.deepen(fall);
            } else {
                p.add('S', fall, 10);
            }
        } else if (fall > 0 && p.top() != null) {
            p.shrink(fall);
            if (p.top() != null) {
                p.wet = true;
                if (counts) {
                    seen.rained++;
                }
            }
        }
        p.snowedBefore = snows;
    }

    private void three(Piste p, int much, int from) {
        boolean topIsSnow = p.top() != null && p.top().kind == 'S';
        if (Math.abs(p.aspect - from) == 2) {
            if (topIsSnow) {
                p.deepen(much);
            } else {
                p.add('S', much, 20);
            }
            if (counts) {
                seen.gusts++;
            }
        } else if (p.aspect == from && topIsSnow) {
            p.shrink(much);
            if (counts) {
                seen.fades++;
            }
        }
    }

    private void fiveToSeven(Piste p, int temp, int fall) {
        if (temp <= -3 && p.wet) {
            Layer t = p.layers.remove(p.layers.size() - 1);
            p.layers.add(new Layer('C', t.depth, 80));
            p.wet = false;
            if (counts) {
                seen.crusts++;
            }
        }
        if (fall == 0 && clock() <= 5 && temp <= -12) {
            Layer t = p.top();
            if (t != null && t.kind == 'S' && t.depth <= 10) {
                p.layers.remove(p.layers.size() - 1);
                p.layers.add(new Layer('W', t.depth, 5));
                if (counts) {
                    seen.weaks++;
                }
            }
        }
        for (Layer l : p.layers) {
            boolean harder = l.kind == 'S' || l.kind == 'M' || (l.kind == 'W' && clock() == 12);
            if (harder && l.hard < 100) {
                l.hard++;
            }
        }
    }

    private void eight(Piste p, int temp, int humid) {
        int bulb = temp - (100 - humid) / 10;
        if (bulb <= -4) {
            for (int g = 0; g < p.guns; g++) {
                if (water >= 105) {
                    water -= 5;
                    p.heap += Math.min(6, -3 - bulb);
                } else if (counts) {
                    seen.dry++;
                }
            }
        }
        int on = p.heap / p.area;
        p.heap = p.heap % p.area;
        if (on > 0) {
            if (p.top() != null && p.top().kind == 'M') {
                p.deepen(on);
                if (counts) {
                    seen.madeOn++;
                }
            } else {
                p.add('M', on, 40);
                if (counts) {
                    seen.made++;
                }
            }
        }
    }

    private int slide(Piste p) {
        int size = p.slideSize();
        int from = p.shear();
        while (p.layers.size() > from) {
            p.layers.remove(p.layers.size() - 1);
        }
        p.wet = false;
        p.toldValue = null;
        p.swept = false;
        p.slides++;
        slides++;
        if (size >= 900) {
            reached++;
            if (counts) {
                seen.reached++;
            }
        }
        if (counts) {
            seen.slides++;
        }
        return size;
    }

    private List<Piste> openOf(int lift) {
        List<Piste> open = new ArrayList<>();
        for (Piste p : pistes) {
            if (p.open && p.lift == lift) {
                open.add(p);
            }
        }
        return open;
    }

    private void ride() {
        int left = skiers;
        for (int l = 0; l < cables.size(); l++) {
            Cable c = cables.get(l);
            List<Piste> open = openOf(l);
            if (!c.on || c.held || open.isEmpty()) {
                continue;
            }
            int taken = Math.min(left, c.capacity);
            left -= taken;
            c.rides += taken;
            rides += taken;
            for (int i = 0; i < open.size(); i++) {
                int share = taken / open.size();
                if (i == 0) {
                    share += taken - share * open.size();
                }
                ski(open.get(i), share);
            }
        }
        waited += left;
    }

    private void ski(Piste p, int riders) {
        boolean crust = p.top() != null && p.top().kind == 'C';
        for (int one = 0; one < riders; one++) {
            p.used++;
            if (p.used % 200 == 0 && p.top() != null) {
                int was = p.layers.size();
                p.shrink(1);
                if (p.layers.size() < was && counts) {
                    seen.wornOff++;
                }
            }
        }
        if (riders > 40 * p.area) {
            calls++;
            if (counts) {
                seen.crowdCalls++;
            }
        }
        if (crust) {
            calls += riders / 50;
            if (counts && riders >= 50) {
                seen.crustCalls++;
            }
        }
    }

    // ---- what is done

    long blast(int run) {
        if (noRun(run)) {
            return INDEX;
        }
        Piste p = pistes.get(run);
        if (p.open || charges == 0) {
            return STATE;
        }
        charges--;
        blasts++;
        if (blasts % 7 == 0) {
            p.duds++;
            seen.duds++;
            return -2;
        }
        if (p.risk() < 40) {
            return 0;
        }
        seen.blasted++;
        return slide(p);
    }

    long search(int run) {
        if (noRun(run)) {
            return INDEX;
        }
        if (pistes.get(run).duds == 0) {
            return STATE;
        }
        return --pistes.get(run).duds;
    }

    private int tells(int run) {
        return Math.max(0, pistes.get(run).risk() + (5 * now + 3 * run) % 9 - 4);
    }

    long test(int run) {
        if (noRun(run)) {
            return INDEX;
        }
        pistes.get(run).toldValue = tells(run);
        pistes.get(run).toldAt = now;
        return pistes.get(run).toldValue;
    }

    long sweep(int run) {
        if (noRun(run)) {
            return INDEX;
        }
        Piste p = pistes.get(run);
        if (p.open) {
            return STATE;
        }
        boolean was = p.swept;
        p.swept = true;
        return was ? 0 : 1;
    }

    long winch(int run, boolean is) {
        if (noRun(run)) {
            return INDEX;
        }
        Piste p = pistes.get(run);
        if (p.open) {
            return STATE;
        }
        boolean was = p.winched;
        p.winched = is;
        return was ? 1 : 0;
    }

    long groom(int run) {
        if (noRun(run)) {
            return INDEX;
        }
        Piste p = pistes.get(run);
        boolean night = clock() >= 18 || clock() <= 6;
        if (p.open || p.layers.size() < 2 || !night || fuel < 5) {
            return STATE;
        }
        fuel -= 5;
        Layer a = p.layers.remove(p.layers.size() - 1);
        Layer b = p.layers.remove(p.layers.size() - 1);
        int depth = Math.min(300, 9 * (a.depth + b.depth) / 10);
        p.layers.add(new Layer('M', depth, Math.min(100, Math.max(a.hard, b.hard) + 10)));
        p.wet = false;
        return depth;
    }

    private boolean tested(Piste p) {
        return p.toldValue != null && now <= p.toldAt + 12;
    }

    private int bar(Piste p, boolean tested, int told, boolean swept) {
        Cable c = cables.get(p.lift);
        boolean[] bars = {
            !c.on || c.held, p.duds > 0, p.winched, !tested, told > 30, p.depth() < 30, !swept
        };
        for (int i = 0; i < bars.length; i++) {
            if (bars[i]) {
                return i + 1;
            }
        }
        return 0;
    }

    private int bar(Piste p) {
        boolean tested = tested(p);
        return bar(p, tested, tested ? p.toldValue : 0, p.swept);
    }

    long open(int run) {
        if (noRun(run)) {
            return INDEX;
        }
        Piste p = pistes.get(run);
        if (p.open) {
            return STATE;
        }
        int bar = bar(p);
        if (bar == 0) {
            p.open = true;
            p.openedAt = now;
        }
        return bar;
    }

    long close(int run) {
        if (noRun(run)) {
            return INDEX;
        }
        Piste p = pistes.get(run);
        if (!p.open) {
            return STATE;
        }
        p.open = false;
        p.swept = false;
        return now - p.openedAt;
    }

    // ---- what is asked

    long ofRun(int run, int what) {
        if (noRun(run)) {
            return INDEX;
        }
        if (out(what, 0, 13)) {
            return ARGUMENT;
        }
        Piste p = pistes.get(run);
        long[] all = {
            p.lift, p.layers.size(), p.depth(), p.wet ? 1 : 0, p.risk(), p.shear(), p.open ? 1 : 0, p.duds, bar(p),
            tested(p) ? p.toldValue : -1, p.heap, p.used, p.slides, p.swept ? 1 : 0
        };
        return all[what];
    }

    long ofLayer(int run, int layer, int what) {
        if (noRun(run) || out(layer, 0, pistes.get(run).layers.size() - 1)) {
            return INDEX;
        }
        if (out(what, 0, 2)) {
            return ARGUMENT;
        }
        Layer l = pistes.get(run).layers.get(layer);
        return what == 0 ? l.depth : what == 1 ? l.hard : "SWCM".indexOf(l.kind);
    }

    long ofLift(int lift, int what) {
        if (noLift(lift)) {
            return INDEX;
        }
        if (out(what, 0, 5)) {
            return ARGUMENT;
        }
        Cable c = cables.get(lift);
        long[] all = {c.capacity, c.limit, c.on ? 1 : 0, c.held ? 1 : 0, c.rides, openOf(lift).size()};
        return all[what];
    }

    long many(int what) {
        if (out(what, 0, 14)) {
            return ARGUMENT;
        }
        int open = 0;
        int whole = 0;
        for (Piste p : pistes) {
            open += p.open ? 1 : 0;
            whole += p.depth() * p.area;
        }
        long[] all = {
            now, cables.size(), pistes.size(), open, water, charges, fuel, skiers, slides, reached, accidents, calls,
            rides, waited, whole
        };
        return all[what];
    }

    double meanDepth() {
        int area = 0;
        for (Piste p : pistes) {
            area += p.area;
        }
        return area == 0 ? 0 : many(14) / (double) area;
    }

    // ---- what would be

    long wouldRisk(int run, int hours, int warmth, int fall) {
        if (noRun(run)) {
            return INDEX;
        }
        if (out(hours, 1, 48) || out(warmth, -20, 20) || out(fall, 0, 9)) {
            return ARGUMENT;
        }
        counts = false;
        PlainMountain other = copy();
        int best = 0;
        for (int h = 0; h < hours; h++) {
            other.hour(warmth, fall, 0, 0, 100, run);
            best = Math.max(best, other.lastRiskAsked);
        }
        counts = true;
        return best;
    }

    long wouldMake(int run, int hours, int warmth, int humid) {
        if (noRun(run)) {
            return INDEX;
        }
        if (out(hours, 1, 48) || out(warmth, -20, 20) || out(humid, 0, 100)) {
            return ARGUMENT;
        }
        counts = false;
        int with = depthBehind(run, hours, warmth, humid, pistes.get(run).guns);
        int without = depthBehind(run, hours, warmth, humid, 0);
        counts = true;
        if (with < without) {
            seen.harmfulGuns++;
        }
        return with - without;
    }

    private int depthBehind(int run, int hours, int warmth, int humid, int guns) {
        PlainMountain other = copy();
        for (Piste p : other.pistes) {
            p.guns = 0;
        }
        other.pistes.get(run).guns = guns;
        for (int h = 0; h < hours; h++) {
            other.hour(warmth, 0, 0, 0, humid, -1);
        }
        return other.pistes.get(run).depth();
    }

    long nextBlast() {
        int best = -1;
        for (int i = pistes.size() - 1; i >= 0; i--) {
            Piste p = pistes.get(i);
            if (p.open || p.duds > 0 || p.risk() < 40) {
                continue;
            }
            if (best < 0 || p.slideSize() >= pistes.get(best).slideSize()) {
                best = i;
            }
        }
        return best;
    }

    long couldOpen() {
        long set = 0;
        for (int i = 0; i < pistes.size(); i++) {
            Piste p = pistes.get(i);
            if (p.open) {
                continue;
            }
            boolean may = bar(p) == 0;
            boolean would = bar(p, true, tells(i), true) == 0;
            if (may && !would) {
                seen.mixedOpen++;
            }
            if (may || would) {
                set += 1L << i;
            }
        }
        return set;
    }

    long digest() {
        List<Long> all = new ArrayList<>();
        for (int w = 0; w <= 14; w++) {
            all.add(many(w));
        }
        for (int r = 0; r < pistes.size(); r++) {
            for (int w = 0; w <= 13; w++) {
                all.add(ofRun(r, w));
            }
            for (int l = 0; l < pistes.get(r).layers.size(); l++) {
                for (int w = 0; w <= 2; w++) {
                    all.add(ofLayer(r, l, w));
                }
            }
            all.add(wouldRisk(r, 12, -6, 3));
            all.add(wouldMake(r, 9, -9, 60));
        }
        for (int l = 0; l < cables.size(); l++) {
            for (int w = 0; w <= 5; w++) {
                all.add(ofLift(l, w));
            }
        }
        all.add(nextBlast());
        all.add(couldOpen());
        long d = 58212;
        for (long v : all) {
            d = d * 31 + v;
        }
        return d;
    }
}
