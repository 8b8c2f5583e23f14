/** Promises 1 to 8: a new object, ball, drag, wind, of, change, lend, felt. */
public final class BallPiecesTest {
    private static final Due due = new Due("BallPiecesTest");

    public static void main(String[] args) {
        newObject();
        ball();
        drag();
        wind();
        ofKinds();
        ofFelt();
        change();
        lend();
        goneLeavesNothing();
        felt();
        due.end();
    }

    private static void newObject() {
        ParcelBall x = new ParcelBall();
        int[] first = {0, 0, 5, 0, 0, 0, 1, 0};
        for (int what = 0; what < first.length; what++) {
            due.is("new: count(" + what + ")", x.count(what), first[what]);
        }
        due.is("new: status(-1)", x.status(-1), 0);
        due.is("new: tear()", x.tear(), 0);
        due.is("new: undo()", x.undo(), Due.NONE);
        due.is("new: drag was 10", x.drag(3), 10);
        due.is("new: ball was at 5", x.ball(3), 5);
        due.is("new: wipe()", x.wipe(), 0);
        due.is("new: seed was 1", x.seed(3), 1);
        for (int s = 0; s < 4; s++) {
            due.is("new: judge(" + s + ")", x.judge(s), Due.MISSING);
        }
        for (int spot = 0; spot < 10; spot++) {
            due.is("new: as(" + spot + ", 0)", x.as(spot, 0), Due.MISSING);
        }
    }

    private static void ball() {
        ParcelBall x = new ParcelBall();
        due.is("ball(0)", x.ball(0), 5);
        due.is("ball(11)", x.ball(11), 0);
        due.is("ball(-1)", x.ball(-1), Due.BEYOND);
        due.is("ball(12)", x.ball(12), Due.BEYOND);
        due.is("ball stays", x.ball(11), 11);
    }

    private static void drag() {
        ParcelBall x = new ParcelBall();
        due.is("drag(0)", x.drag(0), 10);
        due.is("drag(99)", x.drag(99), 0);
        due.is("drag(-1)", x.drag(-1), Due.BEYOND);
        due.is("drag(100)", x.drag(100), Due.BEYOND);
        due.is("drag stays", x.drag(99), 99);
    }

    private static void wind() {
        ParcelBall x = new ParcelBall();
        for (int piece = 0; piece < 8; piece++) {
            due.is("wind " + piece, x.wind(piece % 7, piece + 4), piece);
        }
        due.is("wind a 9th", x.wind(0, 0), Due.FULL);
        due.is("wind a 9th of no kind", x.wind(7, 0), Due.BEYOND);
        due.is("wind a 9th to no place", x.wind(0, 12), Due.BEYOND);
        due.is("wind kind -1", new ParcelBall().wind(-1, 0), Due.BEYOND);
        due.is("wind place -1", new ParcelBall().wind(0, -1), Due.BEYOND);
        int[] first = {6, 10, 10, 0, 0, 0};
        for (int what = 0; what < 6; what++) {
            due.is("wound: of(6, " + what + ")", x.of(6, what), first[what]);
        }
        due.is("wound: of(7, 1)", x.of(7, 1), 11);
        due.is("wound: count(1)", x.count(1), 8);
    }

    /** PULLS and LASTS of each kind, LONG 11, KNOTS 6, AGE 4, two places off. */
    private static void ofKinds() {
        int[] pullsOnMultiple = {11, 15, 33, 27, 37, 5, 30};
        int[] pullsElse = {11, 15, 11, 5, 15, 5, 30};
        int[] lasts = {0, 30, 0, 0, 0, 0, 10};
        for (int kind = 0; kind < 7; kind++) {
            ParcelBall x = Due.wound(3, kind);
            x.drag(99);
            x.change(0, 2, 11);
            x.change(0, 3, 6);
            x.change(0, 4, 4);
            due.is("PULLS of " + kind + " on day 0", x.of(0, 6), pullsOnMultiple[kind]);
            due.is("LASTS of " + kind, x.of(0, 7), lasts[kind]);
            x.go(1);
            x.change(0, 4, 4);
            due.is("PULLS of " + kind + " on day 1", x.of(0, 6), pullsElse[kind]);
            x.go(6);
            x.change(0, 4, 4);
            due.is("PULLS of " + kind + " on day 7", x.of(0, 6), pullsOnMultiple[kind]);
        }
        ParcelBall x = Due.wound(5, Due.ROW);
        x.go(1);
        x.change(0, 2, 4);
        x.change(0, 3, 9);
        due.is("PULLS of a ROW is 0 at least", x.of(0, 6), 0);
        x.change(0, 0, Due.LETTER);
        x.ball(7);
        due.is("PULLS of a LETTER of a ROW at 0", x.of(0, 6), 10);
    }

    /** FELT: DEEP's tenth and KNOTS less GIVES. */
    private static void ofFelt() {
        int[] feltOnDay1 = {39 - 2 - 7, 39 - 2 - 7, 39 - 2 - 7, 32 - 2 - 5, 37 - 2 - 4, 19 - 2 - 2, 78 - 2 - 7};
        for (int kind = 0; kind < 7; kind++) {
            ParcelBall x = Due.wound(5, Due.PIECE, Due.PIECE, Due.PIECE);
            x.go(1);
            x.change(0, 2, 99);
            x.change(1, 0, kind);
            x.change(1, 1, 6);
            x.change(1, 2, 39);
            x.change(1, 3, 7);
            x.change(1, 4, 0);
            x.change(2, 2, 29);
            due.is("DEEP is of those about it", x.of(1, 8), 29);
            due.is("FELT of kind " + kind, x.of(1, 9), feltOnDay1[kind]);
            x.change(1, 2, 1);
            x.change(1, 3, 9);
            due.is("DEEP of the innermost", x.of(0, 8), 30);
            due.is("DEEP of the outermost", x.of(2, 8), 0);
        }
        ParcelBall x = Due.wound(5, Due.HERS, Due.PIECE);
        x.change(0, 3, 4);
        due.is("KNOTS under GIVES add nothing", x.of(0, 9), 5 - 1);
        x.change(0, 2, 1);
        due.is("FELT is 0 at least", x.of(0, 9), 0);
        due.is("of(-1, 0)", x.of(-1, 0), Due.BEYOND);
        due.is("of(2, 0)", x.of(2, 0), Due.BEYOND);
        due.is("of(0, -1)", x.of(0, -1), Due.BEYOND);
        due.is("of(0, 10)", x.of(0, 10), Due.BEYOND);
    }

    private static void change() {
        int[] first = {3, 5, 10, 0, 0, 0};
        int[] least = {0, 0, 1, 0, 0, 0};
        int[] most = {6, 11, 99, 9, 9999, 9999};
        for (int what = 0; what < 6; what++) {
            ParcelBall x = Due.wound(5, Due.PIECE, Due.ROW);
            String call = "change(1, " + what + ", ";
            due.is(call + "least)", x.change(1, what, least[what]), first[what]);
            due.is(call + "most)", x.change(1, what, most[what]), least[what]);
            due.is(call + "below)", x.change(1, what, least[what] - 1), Due.BEYOND);
            due.is(call + "above)", x.change(1, what, most[what] + 1), Due.BEYOND);
            due.is("of(1, " + what + ") behind it", x.of(1, what), most[what]);
            due.is("the other piece stays", x.of(0, 2), 10);
        }
        ParcelBall x = Due.wound(5, Due.PIECE);
        due.is("change(1, 1, 1)", x.change(1, 1, 1), Due.BEYOND);
        due.is("change(-1, 1, 1)", x.change(-1, 1, 1), Due.BEYOND);
        due.is("change(0, 6, 1)", x.change(0, 6, 1), Due.BEYOND);
        due.is("change(0, -1, 1)", x.change(0, -1, 1), Due.BEYOND);
    }

    private static void lend() {
        ParcelBall x = Due.wound(5, Due.PIECE, Due.PIECE);
        x.hold(0, 1);
        x.hold(9, 1);
        x.hold(4, 0);
        due.is("lend(9)", x.lend(9), 10);
        due.is("of what is left", x.of(1, 2), 1);
        due.is("spots still hold it", x.count(7), 3);
        due.is("lend(1)", x.lend(1), 1);
        due.is("it is gone", x.count(1), 1);
        due.is("spots hold nothing", x.as(0, 0), Due.MISSING);
        due.is("the last spot, too", x.as(9, 0), Due.MISSING);
        due.is("another's spot holds", x.as(4, 0), 0);
        due.is("lend(99)", x.lend(99), 10);
        due.is("lend(99) of none", x.lend(99), Due.STATE);
        due.is("lend(0) of none", x.lend(0), Due.BEYOND);
        due.is("lend(100) of none", x.lend(100), Due.BEYOND);
        due.is("wind anew", x.wind(Due.ROW, 2), 0);
        due.is("as new", x.of(0, 2), 10);
        due.is("no spot holds it", x.count(7), 0);
    }

    /** What a gone piece was counts no more, nor is it found in one wound anew. */
    private static void goneLeavesNothing() {
        ParcelBall x = Due.wound(5, Due.PIECE);
        x.wind(Due.FUSE, 9);
        x.change(1, 2, 50);
        x.change(1, 3, 4);
        x.change(1, 4, 50);
        x.change(1, 5, 7);
        x.lend(50);
        due.is("DEEP without it", x.of(0, 8), 0);
        due.is("FELT without it", x.of(0, 9), 10);
        due.is("LONG of all without it", x.now(4), 10);
        due.is("UP without it", x.now(2), 0);
        due.is("its place is not drawn to", x.now(6), 1 << 5);
        due.is("felt(9) without it", x.felt(9), 0);
        due.is("most felt without it", x.now(7), 0);
        due.is("it goes off no more", x.off(), Due.NONE);
        due.is("it draws no more", x.go(9), 5);
        due.is("it went off no more", x.now(5), 0);
        x.wind(Due.PIECE, 2);
        int[] first = {0, 2, 10, 0, 0, 0};
        for (int what = 0; what < 6; what++) {
            due.is("wound anew: of(1, " + what + ")", x.of(1, what), first[what]);
        }
    }

    private static void felt() {
        ParcelBall x = Due.wound(3, Due.PIECE, Due.TICKING);
        x.wind(Due.PIECE, 4);
        due.is("felt(3)", x.felt(3), (10 - 2) + (10 - 1));
        due.is("felt(4)", x.felt(4), 10);
        due.is("felt(0)", x.felt(0), 0);
        due.is("felt(11)", x.felt(11), 0);
        due.is("felt(-1)", x.felt(-1), Due.BEYOND);
        due.is("felt(12)", x.felt(12), Due.BEYOND);
    }
}
