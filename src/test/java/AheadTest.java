/** Promises 11 to 15: ahead, where, when, comes, off. */
public final class AheadTest {
    private static final Due due = new Due("AheadTest");

    public static void main(String[] args) {
        ahead();
        where();
        when();
        comes();
        off();
        twoHundredDays();
        due.end();
    }

    /** A fuse inside, a strong piece about it that draws up from 5 to 8. */
    private static ParcelBall twoPieces() {
        ParcelBall x = new ParcelBall();
        x.wind(Due.FUSE, 5);
        x.wind(Due.PIECE, 8);
        x.change(1, 2, 80);
        x.drag(39);
        return x;
    }

    private static void ahead() {
        ParcelBall x = twoPieces();
        due.is("LONG behind 0", x.ahead(1, 2, 0), 80);
        due.is("LONG behind 9", x.ahead(1, 2, 9), 80);
        due.is("LONG behind 10", x.ahead(1, 2, 10), 40);
        due.is("LONG behind 100", x.ahead(1, 2, 100), 1);
        due.is("KNOTS behind 2", x.ahead(1, 3, 2), 0);
        due.is("KNOTS behind 3", x.ahead(1, 3, 3), 1);
        due.is("AGE behind 9", x.ahead(0, 4, 9), 9);
        due.is("AGE behind 10", x.ahead(0, 4, 10), 0);
        due.is("CAME behind 2", x.ahead(1, 5, 2), 0);
        due.is("CAME behind 3", x.ahead(1, 5, 3), 1);
        due.is("FELT behind 0", x.ahead(0, 9, 0), 20 - 8);
        due.is("FELT behind 5", x.ahead(0, 9, 5), 30 - 8);
        for (int what : new int[] {-1, 0, 1, 6, 7, 8, 10}) {
            due.is("ahead(0, " + what + ", 1)", x.ahead(0, what, 1), Due.BEYOND);
        }
        due.is("ahead(2, 2, 1)", x.ahead(2, 2, 1), Due.BEYOND);
        due.is("ahead(-1, 2, 1)", x.ahead(-1, 2, 1), Due.BEYOND);
        due.is("ahead(0, 2, -1)", x.ahead(0, 2, -1), Due.BEYOND);
        due.is("ahead(0, 2, 101)", x.ahead(0, 2, 101), Due.BEYOND);
        nothingChanged(x);
        ParcelBall y = Due.wound(5, Due.BIRTHDAY);
        due.is("FELT of a BIRTHDAY behind 6", y.ahead(0, 9, 6), 10);
        due.is("FELT of a BIRTHDAY behind 7", y.ahead(0, 9, 7), 30);
    }

    private static void nothingChanged(ParcelBall x) {
        due.is("DAY stays", x.now(0), 0);
        due.is("the ball stays", x.now(1), 5);
        due.is("LONG stays", x.now(4), 90);
        due.is("AGE stays", x.of(0, 4), 0);
        due.is("OFF stays", x.now(5), 0);
        due.is("CAME stays", x.of(1, 5), 0);
    }

    private static void where() {
        ParcelBall x = twoPieces();
        int[] at = {5, 6, 7, 8, 8, 8};
        for (int n = 0; n < at.length; n++) {
            due.is("where(" + n + ")", x.where(n), at[n]);
        }
        due.is("where(100)", x.where(100), 8);
        due.is("where(-1)", x.where(-1), Due.BEYOND);
        due.is("where(101)", x.where(101), Due.BEYOND);
        nothingChanged(x);
    }

    private static void when() {
        ParcelBall x = twoPieces();
        due.is("when(5)", x.when(5), 0);
        due.is("when(7)", x.when(7), 2);
        due.is("when(9)", x.when(9), Due.NONE);
        due.is("when(-1)", x.when(-1), Due.BEYOND);
        due.is("when(12)", x.when(12), Due.BEYOND);
        nothingChanged(x);
    }

    private static void comes() {
        ParcelBall x = twoPieces();
        due.is("comes(1)", x.comes(1), 3);
        due.is("comes(0)", x.comes(0), Due.NONE);
        due.is("comes(2)", x.comes(2), Due.BEYOND);
        due.is("comes(-1)", x.comes(-1), Due.BEYOND);
        nothingChanged(x);
        x.change(1, 5, 9999);
        due.is("9999 grows no more", x.comes(1), Due.NONE);
        x.change(1, 5, 9998);
        due.is("9998 does", x.comes(1), 3);
    }

    private static void off() {
        ParcelBall x = twoPieces();
        due.is("off() of a FUSE", x.off(), 10);
        nothingChanged(x);
        x.change(0, 4, 9);
        due.is("off() on the next day", x.off(), 1);
        x.change(0, 0, Due.TICKING);
        due.is("off() of a TICKING", x.off(), 21);
        x.go(30);
        due.is("off() once more", x.off(), 21);
        x.change(0, 0, Due.HERS);
        due.is("off() of none", x.off(), Due.NONE);
        due.is("off() without pieces", new ParcelBall().off(), Due.NONE);
    }

    /** By these pieces the ball comes to 0, and HERS home, behind 214 days first. */
    private static void twoHundredDays() {
        ParcelBall x = new ParcelBall();
        due.is("text", Due.read(x, "drag 11; hers to 0 long 50; ticking to 9 long 15"), 3);
        x.go(13);
        due.is("201 days are too many for when()", x.when(0), Due.NONE);
        due.is("201 days are too many for comes()", x.comes(0), Due.NONE);
        x.go(1);
        due.is("when() of 200 days", x.when(0), 200);
        due.is("comes() of 200 days", x.comes(0), 200);
    }
}
