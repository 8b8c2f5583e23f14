import java.util.Arrays;

/**
 * What edges have in common: the last value that is taken, the first that is not, on both sides;
 * and two balls made alike, of which one is called and the other is not, tell the same of themselves.
 */
final class Edges {
    interface Made {
        ParcelBall make();
    }

    interface Act {
        long on(ParcelBall x);
    }

    interface ActOf {
        long on(ParcelBall x, int v);
    }

    private final Due due;

    Edges(Due due) {
        this.due = due;
    }

    /** In the call's name # stands for the value. */
    void bounds(String call, Made made, int least, int most, ActOf act) {
        for (int v : new int[] {least, most}) {
            due.holds(named(call, v) + " is taken", act.on(made.make(), v) != Due.BEYOND);
        }
        beside(call, made, least, most, act);
    }

    /** None is taken, as where there is no piece for any number. */
    void beside(String call, Made made, int least, int most, ActOf act) {
        int[] refused = {least - 1, most + 1, least - 256, most + 256, Integer.MIN_VALUE, Integer.MAX_VALUE};
        for (int v : refused) {
            refused(named(call, v), made, x -> act.on(x, v), Due.BEYOND);
        }
    }

    private static String named(String call, int v) {
        return call.replace("#", Integer.toString(v));
    }

    /** It answers the finding, status() counts it, and nothing else has changed. */
    void refused(String call, Made made, Act act, int finding) {
        ParcelBall called = made.make();
        ParcelBall left = made.make();
        due.is(call, act.on(called), finding);
        for (int which = -1; which < 7; which++) {
            int more = which == -1 || which == Due.BEYOND - finding ? 1 : 0;
            due.is("status(" + which + ") behind " + call, called.status(which), left.status(which) + more);
        }
        alike(call, called, left);
    }

    /** It answers as due, no finding is counted, and nothing has changed. */
    void tells(String call, Made made, Act act, long want) {
        ParcelBall called = made.make();
        ParcelBall left = made.make();
        due.is(call, act.on(called), want);
        due.is("status(-1) behind " + call, called.status(-1), left.status(-1));
        alike(call, called, left);
    }

    /** Whatever it answers, nothing has changed. */
    void changesNothing(String call, Made made, Act act) {
        ParcelBall called = made.make();
        act.on(called);
        alike(call, called, made.make());
    }

    /** Both are used up by this. */
    void alike(String call, ParcelBall one, ParcelBall other) {
        long[] got = Told.all(one);
        long[] want = Told.all(other);
        due.is("how much is told behind " + call, got.length, want.length);
        int at = Arrays.mismatch(got, want);
        if (at >= 0 && at < got.length && at < want.length) {
            due.is("told as number " + at + " behind " + call, got[at], want[at]);
        }
    }
}
