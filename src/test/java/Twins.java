import java.util.ArrayList;
import java.util.List;

/**
 * "A method that throws an exception changes nothing": of two objects that were told the same, one is refused a
 * call; then both are asked, and used on, for all that is hidden in them, and must answer alike.
 */
final class Twins {
    interface Make {
        Pistekeeper made();
    }

    interface Call {
        void on(Pistekeeper x);
    }

    private interface Answer {
        long of();
    }

    private static final long INDEX = Long.MIN_VALUE;
    private static final long ARGUMENT = Long.MIN_VALUE + 1;
    private static final long STATE = Long.MIN_VALUE + 2;

    private final Pistekeeper x;
    private final List<Long> answers = new ArrayList<>();

    private Twins(Pistekeeper x) {
        this.x = x;
    }

    static void index(String what, Make make, Call call) {
        Pistekeeper refused = make.made();
        Check.index(what, () -> call.on(refused));
        sameStill(what, refused, make.made());
    }

    static void argument(String what, Make make, Call call) {
        Pistekeeper refused = make.made();
        Check.argument(what, () -> call.on(refused));
        sameStill(what, refused, make.made());
    }

    static void state(String what, Make make, Call call) {
        Pistekeeper refused = make.made();
        Check.state(what, () -> call.on(refused));
        sameStill(what, refused, make.made());
    }

    /** What would be, and what is asked, changes nothing either. */
    static void asks(String what, Make make, Call call) {
        Pistekeeper asked = make.made();
        call.on(asked);
        sameStill(what, asked, make.made());
    }

    private static void sameStill(String what, Pistekeeper one, Pistekeeper other) {
        List<Long> got = new Twins(one).all();
        List<Long> due = new Twins(other).all();
        int at = 0;
        while (at < due.size() && got.get(at).equals(due.get(at))) {
            at++;
        }
        Check.same(what + ": the first answer behind it that differs", at, due.size());
    }

    private List<Long> all() {
        put(x::digest);
        for (int lift = 0; lift < x.many(1); lift++) {
            aLift(lift);
        }
        for (int run = 0; run < x.many(2); run++) {
            aRun(run);
        }
        put(() -> x.crowd(77));
        put(() -> x.fill(3));
        put(() -> x.pass(1, -2, 1, 0, 0, 90));
        put(x::digest);
        for (int hour = 0; hour < 13; hour++) {
            put(() -> x.pass(1, -5, 0, 0, 0, 100));
            put(x::digest);
        }
        for (int run = 0; run < x.many(2); run++) {
            itsEnd(run);
        }
        for (int nth = 0; nth < 8; nth++) {
            put(() -> x.blast(x.many(2) - 1));
        }
        put(() -> x.lift(20, 3));
        put(() -> x.run(0, 1, 26, 1, 1));
        put(x::digest);
        return answers;
    }

    // The wind of the latest hour is seen by nothing but a release.
    private void aLift(int lift) {
        put(() -> x.release(lift) ? 1 : 0);
        put(() -> x.turn(lift, true) ? 1 : 0);
    }

    private void aRun(int run) {
        put(() -> x.wouldRisk(run, 2, -12, 9));
        put(() -> x.wouldMake(run, 2, -20, 0));
        put(() -> x.guns(run, 2));
        put(() -> x.search(run));
        put(() -> x.open(run));
    }

    private void itsEnd(int run) {
        put(() -> x.close(run));
        put(() -> x.groom(run));
        put(() -> x.winch(run, false) ? 1 : 0);
    }

    private void put(Answer answer) {
        long got;
        try {
            got = answer.of();
        } catch (IndexOutOfBoundsException e) {
            got = INDEX;
        } catch (IllegalArgumentException e) {
            got = ARGUMENT;
        } catch (IllegalStateException e) {
            got = STATE;
        }
        answers.add(got);
    }
}
