/** Promises 9 and 10: go, now; and how a day goes by. */
public final class DaysTest {
    private static final Due due = new Due("DaysTest");

    public static void main(String[] args) {
        bounds();
        upAndDown();
        dragHolds();
        comesHome();
        knotsAndCameHaveMost();
        agesHaveMost();
        goesOff();
        oneGoesOffADay();
        tenthOfDeep();
        now();
        weighsOnTheDayItself();
        lastDay();
        due.end();
    }

    private static void bounds() {
        ParcelBall x = new ParcelBall();
        due.is("go(0)", x.go(0), Due.BEYOND);
        due.is("go(61)", x.go(61), Due.BEYOND);
        due.is("go(-1)", x.go(-1), Due.BEYOND);
        due.is("go(60)", x.go(60), 5);
        due.is("DAY", x.now(0), 60);
        due.is("now(-1)", x.now(-1), Due.BEYOND);
        due.is("now(8)", x.now(8), Due.BEYOND);
    }

    private static void upAndDown() {
        ParcelBall x = new ParcelBall();
        x.wind(Due.PIECE, 7);
        x.change(0, 2, 30);
        due.is("a day up", x.go(1), 6);
        due.is("there", x.go(1), 7);
        due.is("it rests there", x.go(5), 7);
        x.change(0, 1, 0);
        due.is("down", x.go(3), 4);
        x.wind(Due.PIECE, 11);
        x.change(1, 2, 29);
        due.is("down holds against up and drag", x.go(1), 4);
    }

    /** Exactly DRAG more does not move it; one more does, each way. */
    private static void dragHolds() {
        for (int to = 0; to <= 11; to += 11) {
            ParcelBall x = Due.wound(to, Due.PIECE);
            x.change(0, 2, 20);
            x.drag(20);
            due.is("20 against 20 to " + to, x.go(1), 5);
            x.drag(19);
            due.is("20 against 19 to " + to, x.go(1), to == 0 ? 4 : 6);
        }
        ParcelBall x = Due.wound(11, Due.PIECE);
        x.wind(Due.PIECE, 0);
        x.change(0, 2, 40);
        x.change(1, 2, 24);
        x.drag(14);
        due.is("38 against 24 and 14", x.go(1), 5);
        x.drag(13);
        due.is("38 against 24 and 13", x.go(1), 6);
    }

    private static void comesHome() {
        ParcelBall x = Due.wound(6, Due.PIECE, Due.PIECE);
        x.wind(Due.PIECE, 5);
        x.change(2, 2, 1);
        due.is("it goes", x.go(1), 6);
        int[] came = {1, 1, 0};
        for (int piece = 0; piece < 3; piece++) {
            due.is("CAME of " + piece, x.of(piece, 5), came[piece]);
            due.is("KNOTS of " + piece, x.of(piece, 3), came[piece]);
            due.is("AGE of " + piece, x.of(piece, 4), 1);
        }
        due.is("it rests", x.go(1), 6);
        due.is("no coming without going", x.of(0, 5), 1);
        due.is("no knots without going", x.of(0, 3), 1);
        due.is("but older", x.of(0, 4), 2);
    }

    private static void knotsAndCameHaveMost() {
        ParcelBall x = Due.wound(6, Due.PIECE);
        x.change(0, 2, 99);
        x.change(0, 3, 9);
        x.change(0, 5, 9999);
        x.go(1);
        due.is("KNOTS at most 9", x.of(0, 3), 9);
        due.is("CAME at most 9999", x.of(0, 5), 9999);
        x.ball(5);
        x.change(0, 3, 8);
        x.change(0, 5, 9998);
        x.go(1);
        due.is("KNOTS 9", x.of(0, 3), 9);
        due.is("CAME 9999", x.of(0, 5), 9999);
    }

    private static void agesHaveMost() {
        ParcelBall x = Due.wound(5, Due.PIECE, Due.TICKING);
        x.change(0, 4, 9998);
        x.change(1, 4, 9999);
        x.go(1);
        due.is("AGE 9999", x.of(0, 4), 9999);
        due.is("it went off at AGE 9999", x.of(1, 4), 0);
        x.go(1);
        due.is("AGE at most 9999", x.of(0, 4), 9999);
    }

    private static void goesOff() {
        ParcelBall x = Due.wound(5, Due.PIECE, Due.FUSE, Due.PIECE, Due.PIECE);
        x.change(2, 2, 99);
        x.change(3, 2, 1);
        x.go(9);
        due.is("not yet", x.now(5), 0);
        due.is("AGE 9", x.of(1, 4), 9);
        x.go(1);
        due.is("off", x.now(5), 1);
        due.is("AGE 0", x.of(1, 4), 0);
        due.is("inner stays", x.of(0, 2), 10);
        due.is("itself stays", x.of(1, 2), 10);
        due.is("half of 99", x.of(2, 2), 49);
        due.is("1 at least", x.of(3, 2), 1);
        due.is("others' AGE stays", x.of(2, 4), 10);
        ParcelBall y = Due.wound(5, Due.TICKING);
        y.go(29);
        due.is("a TICKING not yet", y.now(5), 0);
        y.go(1);
        due.is("a TICKING off", y.now(5), 1);
        for (int kind : new int[] {Due.PIECE, Due.BIRTHDAY, Due.ROW, Due.LETTER, Due.HERS}) {
            ParcelBall z = Due.wound(5, kind);
            z.go(60);
            due.is("kind " + kind + " never", z.now(5), 0);
        }
    }

    private static void oneGoesOffADay() {
        ParcelBall x = Due.wound(5, Due.FUSE, Due.FUSE, Due.TICKING);
        x.change(2, 4, 50);
        x.go(1);
        due.is("the one that is due", x.of(2, 4), 0);
        x.go(8);
        due.is("one", x.now(5), 1);
        x.go(1);
        due.is("the least first", x.of(0, 4), 0);
        due.is("the next waits", x.of(1, 4), 10);
        due.is("halved once", x.of(2, 2), 5);
        x.go(1);
        due.is("then the next", x.of(1, 4), 0);
        due.is("three", x.now(5), 3);
        due.is("halved twice", x.of(2, 2), 2);
        due.is("halved by the first alone", x.of(1, 2), 5);
    }

    private static void tenthOfDeep() {
        int[] about = {9, 10, 19, 20, 99};
        int[] up = {50, 49, 49, 48, 41};
        for (int i = 0; i < about.length; i++) {
            ParcelBall x = Due.wound(9, Due.PIECE);
            x.wind(Due.PIECE, 5);
            x.change(0, 2, 50);
            x.change(1, 2, about[i]);
            due.is("UP below " + about[i], x.now(2), up[i]);
            due.is("FELT below " + about[i], x.of(0, 9), up[i]);
            x.drag(up[i]);
            due.is("a day against it", x.where(1), 5);
            x.drag(up[i] - 1);
            due.is("a day against one less", x.where(1), 6);
        }
    }

    private static void now() {
        ParcelBall x = new ParcelBall();
        due.is("most felt of none", x.now(7), -1);
        due.is("places of none", x.now(6), 0);
        x.wind(Due.PIECE, 11);
        x.wind(Due.PIECE, 0);
        x.wind(Due.PIECE, 5);
        x.wind(Due.PIECE, 0);
        int[] want = {0, 5, 10 - 3, (10 - 2) + 10, 40, 0, 1 | 1 << 5 | 1 << 11, 3};
        for (int what = 0; what < 8; what++) {
            due.is("now(" + what + ")", x.now(what), want[what]);
        }
        x.change(1, 2, 12);
        due.is("DOWN anew", x.now(3), (12 - 2) + 10);
        x.change(0, 2, 11);
        due.is("UP anew", x.now(2), 11 - 3);
        due.is("of two alike the least", x.now(7), 1);
        x.go(4);
        due.is("DAY", x.now(0), 4);
        ParcelBall y = Due.wound(5, Due.HERS, Due.HERS);
        y.change(0, 2, 1);
        y.change(1, 2, 1);
        due.is("of none felt the least", y.now(7), 0);
    }

    /** More calls than an object is used for; STATE can't be seen with fewer. */
    private static void lastDay() {
        ParcelBall x = Due.wound(5, Due.PIECE);
        for (int i = 0; i < 1666; i++) {
            x.go(60);
        }
        due.is("DAY 99960", x.now(0), 99960);
        due.is("go(40) to 100000", x.go(40), Due.STATE);
        due.is("go(61)", x.go(61), Due.BEYOND);
        due.is("DAY stays", x.now(0), 99960);
        due.is("go(20)", x.go(20), 5);
        due.is("parcels(20) to 100000", x.parcels(20), Due.STATE);
        due.is("no draw", x.count(6), 1);
        x.seed(0);
        due.holds("parcels(18)", x.parcels(18) >= 0);
        due.is("DAY 99998", x.count(0), 99998);
        x.image();
        due.holds("go(1) to 99999", x.go(1) >= 0);
        x.undo();
        due.holds("parcels(1) to 99999", x.parcels(1) >= 0);
        due.is("go(1) to 100000", x.go(1), Due.STATE);
        due.is("parcels(1) to 100000", x.parcels(1), Due.STATE);
        due.is("parcels(0)", x.parcels(0), Due.BEYOND);
        due.is("DAY 99999", x.now(0), 99999);
        due.is("what would be behind it is told", x.ahead(0, 4, 1), 9999);
    }

    /** A birthday pulls thrice on days 0, 7, ..: then alone it moves the ball here. */
    private static void weighsOnTheDayItself() {
        ParcelBall x = Due.wound(11, Due.BIRTHDAY);
        x.drag(20);
        due.is("day 0", x.go(1), 6);
        due.is("days 1 to 6", x.go(6), 6);
        due.is("day 7", x.go(1), 7);
        due.is("days 8 to 13", x.go(6), 7);
        due.is("day 14", x.go(1), 8);
        ParcelBall y = Due.wound(11, Due.LETTER);
        y.go(1);
        y.ball(5);
        y.drag(35);
        due.is("10 and 30 against 35", y.go(1), 6);
        due.is("10 and 25 against 35", y.go(1), 6);
    }
}
