/** Promises 1 to 8: a new object, and what is told. */
public final class ToldTest {
    private static final int LEAST = Integer.MIN_VALUE;
    private static final int MOST = Integer.MAX_VALUE;

    public static void main(String[] args) {
        promise1();
        promise2();
        promise3();
        promise4();
        promise5();
        promise6();
        promise7();
        promise8();
        Check.end("ToldTest");
    }

    private static void promise1() {
        Pistekeeper x = new Pistekeeper();
        int[] due = {0, 0, 0, 0, 500, 50, 100, 0, 0, 0, 0, 0, 0, 0, 0};
        for (int what = 0; what < due.length; what++) {
            Check.same("1: many(" + what + ") of a new object", x.many(what), due[what]);
        }
        Check.index("1: no lift", () -> x.ofLift(0, 0));
        Check.index("1: no run", () -> x.ofRun(0, 0));
        Pistekeeper other = new Pistekeeper();
        other.lift(10, 3);
        Check.same("1: objects share nothing", x.many(1), 0);
    }

    private static void promise2() {
        Pistekeeper x = new Pistekeeper();
        int[] bad = {LEAST, -1, 9, 1000, MOST};
        for (int capacity : bad) {
            Check.argument("2: capacity " + capacity, () -> x.lift(capacity, 5));
        }
        int[] badLimits = {LEAST, 2, 10, MOST};
        for (int limit : badLimits) {
            Check.argument("2: limit " + limit, () -> x.lift(10, limit));
        }
        Check.same("2: nothing was told", x.many(1), 0);
        Check.same("2: the first", x.lift(10, 3), 0);
        Check.same("2: the second", x.lift(999, 9), 1);
        Check.same("2: the third", x.lift(500, 6), 2);
        Check.same("2: the fourth", x.lift(11, 4), 3);
        Check.state("2: a fifth", () -> x.lift(10, 3));
        Check.argument("2: a fifth, wrong", () -> x.lift(9, 3));
        Check.same("2: how many", x.many(1), 4);
        int[] due = {999, 9, 0, 0, 0, 0};
        for (int what = 0; what < due.length; what++) {
            Check.same("2: ofLift(1, " + what + ")", x.ofLift(1, what), due[what]);
        }
    }

    private static void promise3() {
        Pistekeeper x = new Pistekeeper();
        Check.index("3: ahead of any lift", () -> x.run(0, 0, 5, 0, 1));
        x.lift(10, 3);
        x.lift(20, 3);
        int[] noLifts = {LEAST, -1, 2, MOST};
        for (int lift : noLifts) {
            Check.index("3: lift " + lift + ", and a wrong height", () -> x.run(lift, 31, 5, 0, 1));
        }
        int[] heights = {LEAST, -1, 31, MOST};
        for (int height : heights) {
            Check.argument("3: height " + height, () -> x.run(0, height, 5, 0, 1));
        }
        int[] slopes = {LEAST, 4, 46, MOST};
        for (int slope : slopes) {
            Check.argument("3: slope " + slope, () -> x.run(0, 0, slope, 0, 1));
        }
        int[] aspects = {LEAST, -1, 4, MOST};
        for (int aspect : aspects) {
            Check.argument("3: aspect " + aspect, () -> x.run(0, 0, 5, aspect, 1));
        }
        int[] areas = {LEAST, 0, 10, MOST};
        for (int area : areas) {
            Check.argument("3: area " + area, () -> x.run(0, 0, 5, 0, area));
        }
        Check.same("3: nothing was told", x.many(2), 0);
        for (int number = 0; number < 8; number++) {
            boolean isOdd = number % 2 == 1;
            int got = isOdd ? x.run(1, 30, 45, 3, 9) : x.run(0, 0, 5, 0, 1);
            Check.same("3: the number", got, number);
        }
        Check.state("3: a ninth", () -> x.run(0, 0, 5, 0, 1));
        Check.argument("3: a ninth, wrong", () -> x.run(0, 0, 5, 0, 0));
        Check.index("3: a ninth, without a lift", () -> x.run(2, 0, 5, 0, 0));
        Check.same("3: how many", x.many(2), 8);
        int[] due = {1, 0, 0, 0, 0, -1, 0, 0, 1, -1, 0, 0, 0, 0};
        for (int what = 0; what < due.length; what++) {
            Check.same("3: ofRun(7, " + what + ")", x.ofRun(7, what), due[what]);
        }
    }

    private static void promise4() {
        Pistekeeper x = new Pistekeeper();
        Check.index("4: no lift", () -> x.turn(0, true));
        x.lift(10, 3);
        x.lift(10, 3);
        Check.index("4: below", () -> x.turn(-1, true));
        Check.index("4: above", () -> x.turn(2, true));
        Check.index("4: far below", () -> x.turn(LEAST, true));
        Check.index("4: far above", () -> x.turn(MOST, true));
        Check.same("4: it was off", x.turn(1, true), false);
        Check.same("4: it was on", x.turn(1, true), true);
        Check.same("4: it is on", x.ofLift(1, 2), 1);
        Check.same("4: the other one is off", x.ofLift(0, 2), 0);
        Check.same("4: it was on, too", x.turn(1, false), true);
        Check.same("4: it is off", x.ofLift(1, 2), 0);
        Check.same("4: it was off again", x.turn(1, false), false);
    }

    private static void promise5() {
        Pistekeeper x = new Pistekeeper();
        Check.index("5: no lift", () -> x.release(0));
        x.lift(10, 5);
        x.lift(10, 9);
        Check.index("5: below", () -> x.release(-1));
        Check.index("5: above", () -> x.release(2));
        Check.same("5: ahead of all hours", x.release(0), false);
        x.pass(1, 0, 0, 5, 0, 0);
        Check.same("5: a wind at the limit does not hold", x.ofLift(0, 3), 0);
        Check.state("5: not held, but too much wind", () -> x.release(0));
        x.pass(1, 0, 0, 6, 0, 0);
        Check.same("5: a wind above the limit holds", x.ofLift(0, 3), 1);
        Check.same("5: not the other one", x.ofLift(1, 3), 0);
        Check.same("5: the other one may be released", x.release(1), false);
        x.pass(1, 0, 0, 4, 0, 0);
        Check.state("5: above the limit less 2", () -> x.release(0));
        Check.same("5: it is still held", x.ofLift(0, 3), 1);
        x.pass(1, 0, 0, 3, 0, 0);
        Check.same("5: it stays so by itself", x.ofLift(0, 3), 1);
        Check.same("5: at the limit less 2", x.release(0), true);
        Check.same("5: no more", x.ofLift(0, 3), 0);
        Check.same("5: once more", x.release(0), false);
    }

    private static void promise6() {
        Pistekeeper x = new Pistekeeper();
        Check.index("6: no run", () -> x.guns(0, 10));
        x.lift(10, 3);
        x.run(0, 0, 5, 0, 1);
        Check.index("6: below", () -> x.guns(-1, 1));
        Check.index("6: above", () -> x.guns(1, 1));
        int[] bad = {LEAST, -1, 10, MOST};
        for (int guns : bad) {
            Check.argument("6: guns " + guns, () -> x.guns(0, guns));
        }
        Check.same("6: none at first", x.guns(0, 9), 0);
        Check.same("6: nine", x.guns(0, 2), 9);
        Check.same("6: two", x.guns(0, 0), 2);
        Check.same("6: none", x.guns(0, 0), 0);
    }

    private static void promise7() {
        Pistekeeper x = new Pistekeeper();
        int[] bad = {LEAST, -1, 0, 5001, MOST};
        for (int much : bad) {
            Check.argument("7: " + much, () -> x.fill(much));
        }
        Check.same("7: nothing was filled", x.many(4), 500);
        Check.same("7: one", x.fill(1), 501);
        Check.same("7: nearly full", x.fill(4498), 4999);
        Check.same("7: full", x.fill(1), 5000);
        Check.same("7: more than full", x.fill(5000), 5000);
        Check.same("7: it holds", x.many(4), 5000);
    }

    private static void promise8() {
        Pistekeeper x = new Pistekeeper();
        int[] bad = {LEAST, -1, 5001, MOST};
        for (int skiers : bad) {
            Check.argument("8: " + skiers, () -> x.crowd(skiers));
        }
        Check.same("8: none at first", x.crowd(5000), 0);
        Check.same("8: all", x.many(7), 5000);
        Check.same("8: all before", x.crowd(7), 5000);
        Check.same("8: seven before", x.crowd(0), 7);
        Check.same("8: none", x.many(7), 0);
    }
}
