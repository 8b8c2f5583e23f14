/** The edges that promises 9 to 15 and the terms of a day name, each by itself. */
public final class DaysEdgesTest {
    private static final Due due = new Due("DaysEdgesTest");
    private static final Edges edges = new Edges(due);
    private static final int LAST_DAY = 99999;

    public static void main(String[] args) {
        goBounds();
        goIsSoManyDays();
        goToTheLastDay();
        oneAboveDrag();
        oneOfBothAboveTheOther();
        restsAtBothEnds();
        onePlaceADay();
        comesHomeWhereItIsNow();
        mostKnotsAndCame();
        mostAge();
        lastsOrMore();
        leastNumberAlone();
        halfOfLong();
        dayStandsAtTheLast();
        mostOff();
        nowBounds();
        nowOfNoneAndAll();
        mostFelt();
        aheadBounds();
        aheadOfNoneAndHundredDays();
        whereBounds();
        whenBounds();
        comesBounds();
        offEdges();
        due.end();
    }

    // ---- promise 9

    private static void goBounds() {
        edges.bounds("go(#)", Worlds::none, 1, 60, (x, v) -> x.go(v));
        edges.bounds("go(#) of some", Worlds::some, 1, 60, (x, v) -> x.go(v));
        edges.bounds("go(#) of full", Worlds::full, 1, 60, (x, v) -> x.go(v));
    }

    private static void goIsSoManyDays() {
        for (int n = 1; n <= 60; n++) {
            ParcelBall at = Worlds.some();
            ParcelBall one = Worlds.some();
            int place = 6;
            for (int i = 0; i < n; i++) {
                place = one.go(1);
            }
            due.is("go(" + n + ")", at.go(n), place);
            due.is("DAY behind go(" + n + ")", at.count(0), 15 + n);
            edges.alike("go(" + n + ") and as many days one by one", at, one);
        }
    }

    /** Takes more calls than an object is used for: STATE can't be seen with fewer. */
    private static void goToTheLastDay() {
        int[] days = {1, 2, 59, 60};
        for (int n : days) {
            ParcelBall x = Worlds.atDay(LAST_DAY - n);
            due.is("go(" + n + ") to 99999", x.go(n), 5);
            due.is("DAY 99999", x.count(0), LAST_DAY);
            edges.refused("go(" + n + ") to 100000", () -> Worlds.atDay(LAST_DAY + 1 - n), y -> y.go(n), Due.STATE);
        }
        edges.refused("go(60) from 99999", () -> Worlds.atDay(LAST_DAY), x -> x.go(60), Due.STATE);
        edges.beside("go(#) from 99999, BEYOND before STATE", () -> Worlds.atDay(LAST_DAY), 1, 60, (x, v) -> x.go(v));
    }

    // ---- terms: a day goes by

    /** A ball at 5 with one piece so long, on a day that is no multiple of 7. */
    private static ParcelBall drawn(int place, int length, int drag) {
        ParcelBall x = new ParcelBall();
        x.go(1);
        x.wind(Due.PIECE, place);
        x.change(0, 2, length);
        x.drag(drag);
        return x;
    }

    private static void oneAboveDrag() {
        for (int drag = 0; drag <= 98; drag++) {
            due.is("one above DRAG " + drag + ", up", drawn(11, drag + 1, drag).go(1), 6);
            due.is("one above DRAG " + drag + ", down", drawn(0, drag + 1, drag).go(1), 4);
            due.is("DRAG " + (drag + 1) + " itself, up", drawn(11, drag + 1, drag + 1).go(1), 5);
            due.is("DRAG " + (drag + 1) + " itself, down", drawn(0, drag + 1, drag + 1).go(1), 5);
        }
        due.is("nothing against DRAG 0", drawn(5, 99, 0).go(1), 5);
    }

    /** One draws up, the other, outermost, down: 49 is FELT of the inner one that is 53 long. */
    private static void oneOfBothAboveTheOther() {
        for (int outer = 40; outer < 60; outer++) {
            for (int drag = 0; drag <= 5; drag += 5) {
                int inner = 53 - outer / 10;
                int want = inner > outer + drag ? 6 : outer > inner + drag ? 4 : 5;
                ParcelBall x = drawn(11, 53, drag);
                x.wind(Due.PIECE, 0);
                x.change(1, 2, outer);
                due.is("UP " + inner, x.now(2), inner);
                due.is("DOWN " + outer, x.now(3), outer);
                due.is(inner + " up, " + outer + " down against " + drag, x.go(1), want);
            }
        }
    }

    private static void restsAtBothEnds() {
        for (int end = 0; end <= 11; end += 11) {
            ParcelBall x = Worlds.longest(end);
            x.drag(0);
            x.ball(end);
            due.is("UP at " + end, x.now(2), 0);
            due.is("DOWN at " + end, x.now(3), 0);
            due.is("rests at " + end, x.go(60), end);
            due.is("none came home", x.of(0, 5), 0);
        }
    }

    private static void onePlaceADay() {
        ParcelBall up = Worlds.longest(11);
        up.ball(0);
        ParcelBall down = Worlds.longest(0);
        down.ball(11);
        for (int i = 1; i <= 11; i++) {
            due.is("up, day " + i, up.go(1), i);
            due.is("down, day " + i, down.go(1), 11 - i);
        }
        due.is("up no more", up.go(1), 11);
        due.is("down no more", down.go(1), 0);
    }

    /** Not those of the place that it left, nor those where it rests. */
    private static void comesHomeWhereItIsNow() {
        ParcelBall x = new ParcelBall();
        for (int place = 4; place <= 7; place++) {
            x.wind(Due.PIECE, place);
        }
        x.change(2, 2, 99);
        x.change(3, 2, 1);
        int[] came = {0, 0, 1, 0};
        for (int day = 1; day <= 2; day++) {
            due.is("AT behind day " + day, x.go(1), 6);
            for (int piece = 0; piece < 4; piece++) {
                due.is("CAME of " + piece + " behind day " + day, x.of(piece, 5), came[piece]);
                due.is("KNOTS of " + piece + " behind day " + day, x.of(piece, 3), came[piece]);
                due.is("AGE of " + piece + " behind day " + day, x.of(piece, 4), day);
            }
        }
    }

    private static void mostKnotsAndCame() {
        int[] knots = {0, 7, 8, 9};
        int[] came = {0, 9997, 9998, 9999};
        for (int i = 0; i < 4; i++) {
            ParcelBall x = drawn(6, 99, 10);
            x.change(0, 3, knots[i]);
            x.change(0, 5, came[i]);
            x.go(1);
            due.is("KNOTS from " + knots[i], x.of(0, 3), Math.min(9, knots[i] + 1));
            due.is("CAME from " + came[i], x.of(0, 5), Math.min(9999, came[i] + 1));
        }
        ParcelBall x = drawn(6, 99, 10);
        x.change(0, 3, 9);
        x.go(1);
        due.is("CAME is 1 more with KNOTS 9", x.of(0, 5), 1);
        x = drawn(6, 99, 10);
        x.change(0, 5, 9999);
        x.go(1);
        due.is("KNOTS are 1 more with CAME 9999", x.of(0, 3), 1);
    }

    private static void mostAge() {
        for (int age = 9990; age <= 9999; age++) {
            ParcelBall x = Due.wound(5, Due.PIECE);
            x.change(0, 4, age);
            x.go(1);
            due.is("AGE from " + age, x.of(0, 4), Math.min(9999, age + 1));
            x.go(60);
            due.is("AGE at last", x.of(0, 4), 9999);
        }
    }

    /** It goes off on the day on which its AGE becomes LASTS, and on any on which it is more. */
    private static void lastsOrMore() {
        int[] kinds = {Due.TICKING, Due.FUSE};
        int[] lasts = {30, 10};
        for (int i = 0; i < 2; i++) {
            int[] ages = {0, lasts[i] - 2, lasts[i] - 1, lasts[i], 9998, 9999};
            for (int age : ages) {
                ParcelBall x = Due.wound(5, kinds[i], Due.PIECE);
                x.change(0, 4, age);
                x.go(1);
                boolean goesOff = age + 1 >= lasts[i];
                due.is("AGE of kind " + kinds[i] + " from " + age, x.of(0, 4), goesOff ? 0 : age + 1);
                due.is("OFF of kind " + kinds[i] + " from " + age, x.count(4), goesOff ? 1 : 0);
                due.is("LONG about kind " + kinds[i] + " from " + age, x.of(1, 2), goesOff ? 5 : 10);
            }
        }
        for (int kind = 0; kind < 7; kind++) {
            ParcelBall x = Due.wound(5, kind);
            x.change(0, 4, 9999);
            x.go(1);
            boolean goesOff = kind == Due.TICKING || kind == Due.FUSE;
            due.is("kind " + kind + " of AGE 9999", x.count(4), goesOff ? 1 : 0);
        }
    }

    /** All eight are old, six of them of kinds that go off: one a day, the least number first. */
    private static void leastNumberAlone() {
        ParcelBall x = Due.wound(5, 0, 6, 1, 0, 6, 1, 6, 1);
        int[] order = {1, 2, 4, 5, 6, 7};
        for (int piece = 0; piece < 8; piece++) {
            x.change(piece, 4, 40);
        }
        for (int i = 0; i < order.length; i++) {
            x.go(1);
            due.is("OFF on day " + i, x.count(4), i + 1);
            for (int k = 0; k < order.length; k++) {
                int want = k <= i ? i - k : 41 + i;
                due.is("AGE of " + order[k] + " on day " + i, x.of(order[k], 4), want);
            }
        }
        x.go(1);
        due.is("none on the day behind them", x.count(4), 6);
        int[] halves = {10, 10, 5, 2, 2, 1, 1, 1};
        for (int piece = 0; piece < 8; piece++) {
            due.is("LONG of " + piece + " behind it", x.of(piece, 2), halves[piece]);
        }
    }

    private static void halfOfLong() {
        for (int length = 1; length <= 99; length++) {
            ParcelBall x = Due.wound(5, Due.PIECE, Due.FUSE, Due.PIECE, Due.PIECE);
            x.change(1, 4, 9);
            for (int piece = 0; piece < 4; piece++) {
                x.change(piece, 2, length);
            }
            x.go(1);
            int half = length == 1 ? 1 : length / 2;
            int[] want = {length, length, half, half};
            for (int piece = 0; piece < 4; piece++) {
                due.is("LONG of " + piece + " from " + length, x.of(piece, 2), want[piece]);
            }
        }
    }

    /** 99995 is the last multiple of 7; 100002 would be the next. */
    private static void dayStandsAtTheLast() {
        ParcelBall x = Worlds.atDay(LAST_DAY - 5);
        x.wind(Due.BIRTHDAY, 5);
        due.is("FELT on 99994", x.ahead(0, 9, 0), 10);
        due.is("FELT on 99995", x.ahead(0, 9, 1), 30);
        for (int n = 2; n <= 100; n++) {
            due.is("FELT behind " + n + " days from 99994", x.ahead(0, 9, n), 10);
        }
        x.go(5);
        due.is("DAY", x.count(0), LAST_DAY);
        for (int n = 0; n <= 100; n++) {
            due.is("FELT behind " + n + " days from 99999", x.ahead(0, 9, n), 10);
        }
        due.is("where(100) is told", x.where(100), 5);
        due.is("AGE goes on", x.ahead(0, 4, 100), 105);
    }

    /** One goes off on each day that there is; takes more calls than an object is used for. */
    private static void mostOff() {
        ParcelBall x = Due.wound(5, Due.FUSE);
        for (int day = 0; day < LAST_DAY - 1; day++) {
            x.change(0, 4, 9);
            x.go(1);
        }
        due.is("OFF 99998", x.count(4), LAST_DAY - 1);
        due.is("off() from 99998", x.off(), 10);
        x.change(0, 4, 9);
        due.is("off() on the next day from 99998", x.off(), 1);
        x.go(1);
        due.is("OFF 99999", x.count(4), LAST_DAY);
        due.is("OFF 99999 by now()", x.now(5), LAST_DAY);
        due.is("off() from 99999", x.off(), Due.NONE);
        due.is("it goes off all the same", x.ahead(0, 4, 10), 0);
    }

    // ---- promise 10

    private static void nowBounds() {
        edges.bounds("now(#)", Worlds::none, 0, 7, (x, v) -> x.now(v));
        edges.bounds("now(#) of some", Worlds::some, 0, 7, (x, v) -> x.now(v));
        for (int what = 0; what < 8; what++) {
            int w = what;
            edges.changesNothing("now(" + w + ") of none", Worlds::none, x -> x.now(w));
            edges.changesNothing("now(" + w + ") of full", Worlds::full, x -> x.now(w));
        }
    }

    private static void nowOfNoneAndAll() {
        int[] none = {0, 5, 0, 0, 0, 0, 0, -1};
        for (int what = 0; what < 8; what++) {
            int w = what;
            edges.tells("now(" + w + ") of none", Worlds::none, x -> x.now(w), none[w]);
        }
        int all = 8 * 99 - (9 + 19 + 29 + 39 + 49 + 59 + 69);
        for (int place = 0; place < 12; place++) {
            ParcelBall x = Worlds.longest(place);
            int[] want = {0, 5, place > 5 ? all : 0, place < 5 ? all : 0, 792, 0, 1 << place, 7};
            for (int what = 0; what < 8; what++) {
                due.is("now(" + what + ") of all to " + place, x.now(what), want[what]);
            }
        }
    }

    private static void mostFelt() {
        ParcelBall x = Due.wound(5, Due.PIECE, Due.PIECE, Due.PIECE);
        x.change(0, 2, 12);
        due.is("12 - 2, 10 - 1 and 10: the least of two", x.now(7), 0);
        x.change(0, 2, 11);
        due.is("11 - 2, 10 - 1 and 10", x.now(7), 2);
        x.change(0, 2, 13);
        due.is("13 - 2, 10 - 1 and 10", x.now(7), 0);
        x.change(0, 2, 1);
        x.change(1, 2, 12);
        due.is("1, 12 - 1 and 10", x.now(7), 1);
        for (int piece = 0; piece < 3; piece++) {
            x.change(piece, 2, 1);
            x.change(piece, 3, 1);
        }
        due.is("none is felt at all: the least", x.now(7), 0);
        for (int piece = 0; piece < 8; piece++) {
            ParcelBall y = Due.wound(5, 0, 0, 0, 0, 0, 0, 0, 0);
            y.change(piece, 2, 99);
            due.is("the longest of eight", y.now(7), piece);
        }
    }

    // ---- promise 11

    private static void aheadBounds() {
        int[] told = {2, 3, 4, 5, 9};
        int[] others = {Integer.MIN_VALUE, -1, 0, 1, 6, 7, 8, 10, 11, Integer.MAX_VALUE};
        for (int what : told) {
            String call = "ahead(1, " + what + ", #)";
            edges.bounds(call, Worlds::some, 0, 100, (x, v) -> x.ahead(1, what, v));
            edges.bounds("ahead(#, " + what + ", 3)", Worlds::some, 0, 2, (x, v) -> x.ahead(v, what, 3));
            edges.bounds("ahead(#, " + what + ", 3) of full", Worlds::full, 0, 7, (x, v) -> x.ahead(v, what, 3));
            edges.beside("ahead(#, " + what + ", 3) of none", Worlds::none, 0, -1, (x, v) -> x.ahead(v, what, 3));
            edges.changesNothing("ahead(6, " + what + ", 100)", Worlds::full, x -> x.ahead(6, what, 100));
        }
        for (int what : others) {
            edges.refused("ahead(1, " + what + ", 3)", Worlds::some, x -> x.ahead(1, what, 3), Due.BEYOND);
        }
    }

    /**
     * DEEP of the innermost falls as the TICKING goes off behind 9, 39, 69 and 99 days: 109, 59, 34, 22, 16;
     * so on the 100th day alone it is FELT above DRAG.
     */
    private static ParcelBall hundredDays() {
        ParcelBall x = Due.wound(5, Due.PIECE, Due.TICKING, Due.PIECE);
        x.change(0, 1, 11);
        x.change(0, 2, 30);
        x.change(1, 4, 21);
        x.change(2, 2, 99);
        x.drag(28);
        return x;
    }

    private static void aheadOfNoneAndHundredDays() {
        int[] days = {0, 8, 9, 38, 39, 68, 69, 98, 99, 100};
        int[] lengths = {99, 99, 49, 49, 24, 24, 12, 12, 6, 6};
        int[] felt = {20, 20, 25, 25, 27, 27, 28, 28, 29, 29};
        for (int i = 0; i < days.length; i++) {
            int n = days[i];
            int length = lengths[i];
            int feltThen = felt[i];
            edges.tells("LONG behind " + n, DaysEdgesTest::hundredDays, x -> x.ahead(2, 2, n), length);
            edges.tells("FELT behind " + n, DaysEdgesTest::hundredDays, x -> x.ahead(0, 9, n), feltThen);
        }
        ParcelBall x = Due.wound(6, Due.PIECE);
        x.change(0, 2, 99);
        x.change(0, 4, 9899);
        due.is("AGE behind 0", x.ahead(0, 4, 0), 9899);
        due.is("AGE behind 99", x.ahead(0, 4, 99), 9998);
        due.is("AGE behind 100", x.ahead(0, 4, 100), 9999);
        x.go(1);
        due.is("AGE behind 100 at most", x.ahead(0, 4, 100), 9999);
        x.ball(5);
        due.is("KNOTS behind 0", x.ahead(0, 3, 0), 1);
        due.is("KNOTS behind 1", x.ahead(0, 3, 1), 2);
        due.is("CAME behind 0", x.ahead(0, 5, 0), 1);
        due.is("CAME behind 1", x.ahead(0, 5, 1), 2);
        x.change(0, 3, 9);
        x.change(0, 5, 9999);
        due.is("KNOTS behind 1 at most", x.ahead(0, 3, 1), 9);
        due.is("CAME behind 1 at most", x.ahead(0, 5, 1), 9999);
    }

    // ---- promises 12 and 13

    private static void whereBounds() {
        edges.bounds("where(#)", Worlds::none, 0, 100, (x, v) -> x.where(v));
        edges.bounds("where(#) of some", Worlds::some, 0, 100, (x, v) -> x.where(v));
        edges.bounds("where(#) of full", Worlds::full, 0, 100, (x, v) -> x.where(v));
        edges.changesNothing("where(100)", Worlds::some, x -> x.where(100));
        edges.tells("where(0)", DaysEdgesTest::hundredDays, x -> x.where(0), 5);
        edges.tells("where(99)", DaysEdgesTest::hundredDays, x -> x.where(99), 5);
        edges.tells("where(100)", DaysEdgesTest::hundredDays, x -> x.where(100), 6);
    }

    private static void whenBounds() {
        edges.bounds("when(#)", Worlds::none, 0, 11, (x, v) -> x.when(v));
        edges.bounds("when(#) of some", Worlds::some, 0, 11, (x, v) -> x.when(v));
        edges.bounds("when(#) of full", Worlds::full, 0, 11, (x, v) -> x.when(v));
        edges.tells("when(5)", Worlds::none, x -> x.when(5), 0);
        edges.refused("when(4) of none", Worlds::none, x -> x.when(4), Due.NONE);
        edges.refused("when(6) of none", Worlds::none, x -> x.when(6), Due.NONE);
        edges.tells("when(6)", DaysEdgesTest::hundredDays, x -> x.when(6), 100);
        for (int place = 0; place < 12; place++) {
            ParcelBall up = Worlds.longest(11);
            up.ball(0);
            due.is("when(" + place + ") from 0", up.when(place), place);
            ParcelBall down = Worlds.longest(0);
            down.ball(11);
            due.is("when(" + place + ") from 11", down.when(place), 11 - place);
        }
        edges.tells("when(0) behind 200 days", () -> slow(14), x -> x.when(0), 200);
        edges.refused("when(0) behind 201 days", () -> slow(13), x -> x.when(0), Due.NONE);
    }

    /** By these pieces the ball comes to 0, and the first home, behind 214 days first. */
    private static ParcelBall slow(int days) {
        ParcelBall x = new ParcelBall();
        Due.read(x, "drag 11; hers to 0 long 50; ticking to 9 long 15");
        x.go(days);
        return x;
    }

    // ---- promise 14

    private static void comesBounds() {
        edges.bounds("comes(#) of some", Worlds::some, 0, 2, (x, v) -> x.comes(v));
        edges.bounds("comes(#) of full", Worlds::full, 0, 7, (x, v) -> x.comes(v));
        edges.beside("comes(#) of none", Worlds::none, 0, -1, (x, v) -> x.comes(v));
        edges.tells("comes(0) on the next day", () -> drawn(6, 99, 10), x -> x.comes(0), 1);
        edges.tells("comes(0) on the day behind", () -> drawn(7, 99, 10), x -> x.comes(0), 2);
        edges.refused("comes(0) where it rests", () -> drawn(5, 99, 10), x -> x.comes(0), Due.NONE);
        edges.tells("comes(0) behind 200 days", () -> slow(14), x -> x.comes(0), 200);
        edges.refused("comes(0) behind 201 days", () -> slow(13), x -> x.comes(0), Due.NONE);
        ParcelBall x = Due.wound(5, Due.PIECE, Due.BIRTHDAY);
        x.change(0, 2, 20);
        x.change(1, 1, 6);
        x.change(1, 2, 15);
        due.is("it goes from home and comes again", x.comes(0), 2);
        due.is("the other comes first", x.comes(1), 1);
        x.change(0, 5, 9998);
        due.is("comes(0) from CAME 9998", x.comes(0), 2);
        x.change(0, 5, 9999);
        due.is("comes(0) from CAME 9999", x.comes(0), Due.NONE);
        ParcelBall away = drawn(6, 99, 10);
        away.change(0, 5, 9999);
        due.is("comes(0) from CAME 9999, from another place", away.comes(0), Due.NONE);
        away.change(0, 5, 9998);
        due.is("comes(0) from CAME 9998, from another place", away.comes(0), 1);
    }

    // ---- promise 15

    private static void offEdges() {
        edges.refused("off() of none", Worlds::none, x -> x.off(), Due.NONE);
        edges.refused("off() of pieces that last", () -> Due.wound(5, 0, 2, 3, 4, 5), x -> x.off(), Due.NONE);
        edges.tells("off() of a TICKING", () -> Due.wound(5, Due.TICKING), x -> x.off(), 30);
        edges.tells("off() of a FUSE", () -> Due.wound(5, Due.FUSE), x -> x.off(), 10);
        edges.tells("off() of both", () -> Due.wound(5, Due.TICKING, Due.FUSE), x -> x.off(), 10);
        edges.changesNothing("off()", Worlds::some, x -> x.off());
        ParcelBall x = Due.wound(5, 0, 0, 0, 0, 0, 0, 0, Due.TICKING);
        for (int days = 30; days >= 1; days--) {
            x.change(7, 4, 30 - days);
            due.is("off() behind " + days, x.off(), days);
        }
        x.change(7, 4, 9999);
        due.is("off() of AGE 9999", x.off(), 1);
        x.go(1);
        due.is("off() behind one that went off", x.off(), 30);
    }
}
