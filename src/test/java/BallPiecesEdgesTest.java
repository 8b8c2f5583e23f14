/** The edges that promises 1 to 8 and the terms of pieces name, each by itself. */
public final class BallPiecesEdgesTest {
    private static final Due due = new Due("BallPiecesEdgesTest");
    private static final Edges edges = new Edges(due);
    private static final int[] LEAST = {0, 0, 1, 0, 0, 0};
    private static final int[] MOST = {6, 11, 99, 9, 9999, 9999};

    public static void main(String[] args) {
        newObjectHasNothing();
        newObjectIsItsOwn();
        ballBounds();
        ballIsPutNotGone();
        dragBounds();
        windBounds();
        windFull();
        ofBounds();
        changeBounds();
        changeIsOfOneAlone();
        pullsEdges();
        lastsOfEachKind();
        givesEdges();
        feltEdges();
        deepEdges();
        lendBounds();
        lendCutsOrTakes();
        lendEmptiesSpots();
        lendToTheLast();
        feltBounds();
        due.end();
    }

    // ---- promise 1

    private static void newObjectHasNothing() {
        ParcelBall x = new ParcelBall();
        due.is("new: of(0, 0)", x.of(0, 0), Due.BEYOND);
        due.is("new: no image", x.tear(), 0);
        due.is("new: the tape", x.count(5), 0);
        due.is("new: UP", x.now(2), 0);
        due.is("new: DOWN", x.now(3), 0);
        for (int spot = 0; spot < 10; spot++) {
            due.is("new: spot " + spot, new ParcelBall().as(spot, 0), Due.MISSING);
        }
        for (int s = 0; s < 4; s++) {
            due.is("new: sheet " + s, new ParcelBall().load(s), Due.MISSING);
        }
        ParcelBall y = new ParcelBall();
        for (int which = -1; which < 7; which++) {
            due.is("new: status(" + which + ")", y.status(which), 0);
        }
    }

    /** What one object has is nothing to the next. */
    private static void newObjectIsItsOwn() {
        ParcelBall busy = Worlds.full();
        busy.ball(99);
        ParcelBall x = new ParcelBall();
        due.is("behind another: no finding", x.status(-1), 0);
        edges.alike("new behind another", x, Worlds.none());
        edges.alike("another behind new", Worlds.full(), busy);
    }

    // ---- promise 2

    private static void ballBounds() {
        edges.bounds("ball(#)", Worlds::none, 0, 11, (x, v) -> x.ball(v));
        edges.bounds("ball(#) of some", Worlds::some, 0, 11, (x, v) -> x.ball(v));
        edges.bounds("ball(#) of full", Worlds::full, 0, 11, (x, v) -> x.ball(v));
        for (int place = 0; place < 12; place++) {
            ParcelBall x = new ParcelBall();
            due.is("ball(" + place + ")", x.ball(place), 5);
            due.is("AT " + place, x.count(2), place);
            due.is("AT " + place + " by now()", x.now(1), place);
            due.is("ball() where it is", x.ball(place), place);
        }
    }

    /** Only a DAY lets a piece come home. */
    private static void ballIsPutNotGone() {
        ParcelBall x = Due.wound(6, Due.PIECE);
        x.ball(6);
        int[] first = {0, 6, 10, 0, 0, 0};
        for (int what = 0; what < 6; what++) {
            due.is("put there: of(0, " + what + ")", x.of(0, what), first[what]);
        }
        due.is("put there: DAY", x.count(0), 0);
    }

    // ---- promise 3

    private static void dragBounds() {
        edges.bounds("drag(#)", Worlds::none, 0, 99, (x, v) -> x.drag(v));
        edges.bounds("drag(#) of some", Worlds::some, 0, 99, (x, v) -> x.drag(v));
        edges.bounds("drag(#) of full", Worlds::full, 0, 99, (x, v) -> x.drag(v));
        ParcelBall x = new ParcelBall();
        due.is("DRAG at first", x.drag(99), 10);
        due.is("DRAG was 99", x.drag(0), 99);
        due.is("DRAG was 0", x.drag(0), 0);
    }

    // ---- promise 4

    private static void windBounds() {
        edges.bounds("wind(#, 3)", Worlds::none, 0, 6, (x, v) -> x.wind(v, 3));
        edges.bounds("wind(#, 3) of some", Worlds::some, 0, 6, (x, v) -> x.wind(v, 3));
        edges.bounds("wind(3, #)", Worlds::none, 0, 11, (x, v) -> x.wind(3, v));
        edges.bounds("wind(3, #) of some", Worlds::some, 0, 11, (x, v) -> x.wind(3, v));
        for (int kind = 0; kind < 7; kind++) {
            for (int place = 0; place < 12; place++) {
                ParcelBall x = Due.wound(5, Due.ROW);
                due.is("wind(" + kind + ", " + place + ")", x.wind(kind, place), 1);
                int[] first = {kind, place, 10, 0, 0, 0};
                for (int what = 0; what < 6; what++) {
                    due.is("wound: of(1, " + what + ")", x.of(1, what), first[what]);
                }
                due.is("the inner one lies about none of it", x.of(1, 8), 0);
                due.is("it lies about the inner one", x.of(0, 8), 10);
            }
        }
    }

    /** The 8th is taken, a 9th is not; what is BEYOND is told before FULL. */
    private static void windFull() {
        ParcelBall x = Due.wound(5, 0, 0, 0, 0, 0, 0, 0);
        due.is("the 8th", x.wind(Due.PIECE, 5), 7);
        due.is("a 9th", x.wind(Due.PIECE, 5), Due.FULL);
        due.is("8 still", x.count(1), 8);
        edges.refused("a 9th of full", Worlds::full, y -> y.wind(6, 11), Due.FULL);
        edges.refused("a 9th of the longest", () -> Worlds.longest(5), y -> y.wind(0, 0), Due.FULL);
        edges.beside("a 9th of kind #", Worlds::full, 0, 6, (y, v) -> y.wind(v, 3));
        edges.beside("a 9th to #", Worlds::full, 0, 11, (y, v) -> y.wind(3, v));
        x.lend(99);
        due.is("room again", x.wind(Due.ROW, 4), 7);
    }

    // ---- promise 5

    private static void ofBounds() {
        edges.bounds("of(#, 9) of some", Worlds::some, 0, 2, (x, v) -> x.of(v, 9));
        edges.bounds("of(#, 0) of full", Worlds::full, 0, 7, (x, v) -> x.of(v, 0));
        edges.bounds("of(1, #)", Worlds::some, 0, 9, (x, v) -> x.of(1, v));
        edges.beside("of(#, 3) of none", Worlds::none, 0, -1, (x, v) -> x.of(v, 3));
        for (int piece = 0; piece < 8; piece++) {
            for (int what = 0; what < 10; what++) {
                int p = piece;
                int w = what;
                edges.changesNothing("of(" + p + ", " + w + ")", Worlds::full, x -> x.of(p, w));
            }
        }
        edges.refused("of() of a piece that is gone", BallPiecesEdgesTest::lent, x -> x.of(1, 0), Due.BEYOND);
    }

    /** Two were wound, one is left. */
    private static ParcelBall lent() {
        ParcelBall x = Due.wound(5, Due.PIECE, Due.FUSE);
        x.lend(10);
        return x;
    }

    // ---- promise 6

    private static void changeBounds() {
        for (int what = 0; what < 6; what++) {
            int w = what;
            String call = "change(1, " + w + ", #)";
            edges.bounds(call, Worlds::some, LEAST[w], MOST[w], (x, v) -> x.change(1, w, v));
            edges.bounds(call + " of full", Worlds::full, LEAST[w], MOST[w], (x, v) -> x.change(1, w, v));
            edges.beside("change(#, " + w + ", 1)", Worlds::some, 0, 2, (x, v) -> x.change(v, w, 1));
            edges.beside("change(#, " + w + ", 1) of full", Worlds::full, 0, 7, (x, v) -> x.change(v, w, 1));
            edges.beside("change(#, " + w + ", 1) of none", Worlds::none, 0, -1, (x, v) -> x.change(v, w, 1));
        }
        edges.bounds("change(1, #, 1)", Worlds::some, 0, 5, (x, v) -> x.change(1, v, 1));
        for (int what = 6; what < 10; what++) {
            int w = what;
            edges.refused("change(1, " + w + ", 1)", Worlds::some, x -> x.change(1, w, 1), Due.BEYOND);
        }
        edges.refused("change() of a piece that is gone", BallPiecesEdgesTest::lent, x -> x.change(1, 2, 5), Due.BEYOND);
    }

    /** The innermost and the outermost, to the least and the most of each. */
    private static void changeIsOfOneAlone() {
        int[] first = {0, 5, 10, 0, 0, 0};
        for (int piece = 0; piece < 8; piece += 7) {
            for (int what = 0; what < 6; what++) {
                ParcelBall x = Due.wound(5, 0, 0, 0, 0, 0, 0, 0, 0);
                due.is("change to the most", x.change(piece, what, MOST[what]), first[what]);
                due.is("to the least", x.change(piece, what, LEAST[what]), MOST[what]);
                due.is("to the most again", x.change(piece, what, MOST[what]), LEAST[what]);
                for (int p = 0; p < 8; p++) {
                    for (int w = 0; w < 6; w++) {
                        int want = p == piece && w == what ? MOST[w] : first[w];
                        due.is("of(" + p + ", " + w + ")", x.of(p, w), want);
                    }
                }
            }
        }
    }

    // ---- terms: PULLS, LASTS, GIVES, FELT, DEEP

    /** One piece of a kind, so long and with so many knots, on a DAY that is a multiple of 7 or not. */
    private static ParcelBall piece(int kind, int length, int knots, boolean onMultiple) {
        ParcelBall x = new ParcelBall();
        x.go(onMultiple ? 7 : 6);
        x.wind(kind, 5);
        x.change(0, 2, length);
        x.change(0, 3, knots);
        return x;
    }

    private static void pullsEdges() {
        due.is("PULLS of 1", piece(Due.PIECE, 1, 9, true).of(0, 6), 1);
        due.is("PULLS of 99", piece(Due.PIECE, 99, 9, true).of(0, 6), 99);
        due.is("half of 1", piece(Due.HERS, 1, 0, true).of(0, 6), 0);
        due.is("half of 2", piece(Due.HERS, 2, 0, true).of(0, 6), 1);
        due.is("half of 99", piece(Due.HERS, 99, 0, true).of(0, 6), 49);
        due.is("thrice 99", piece(Due.BIRTHDAY, 99, 9, true).of(0, 6), 297);
        due.is("once 99", piece(Due.BIRTHDAY, 99, 9, false).of(0, 6), 99);
        due.is("a ROW of as many KNOTS", piece(Due.ROW, 3, 9, true).of(0, 6), 0);
        due.is("a ROW of one KNOT less", piece(Due.ROW, 3, 8, true).of(0, 6), 1);
        due.is("a ROW of more KNOTS", piece(Due.ROW, 2, 9, true).of(0, 6), 0);
        due.is("a ROW of more KNOTS on another day", piece(Due.ROW, 8, 9, false).of(0, 6), 0);
        ParcelBall letter = piece(Due.LETTER, 2, 9, false);
        due.is("a LETTER of more KNOTS, where the ball is", letter.of(0, 6), 0);
        letter.ball(6);
        due.is("one place off", letter.of(0, 6), 5);
        letter.ball(4);
        due.is("one place off to the other side", letter.of(0, 6), 5);
        letter.ball(0);
        letter.change(0, 1, 11);
        due.is("eleven places off", letter.of(0, 6), 55);
        letter.ball(11);
        letter.change(0, 1, 0);
        due.is("eleven places off to the other side", letter.of(0, 6), 55);
        ParcelBall fuse = piece(Due.FUSE, 99, 9, false);
        fuse.change(0, 4, 9999);
        due.is("PULLS of the longest and oldest FUSE", fuse.of(0, 6), 2 * (99 + 9999));
        fuse.change(0, 0, Due.TICKING);
        due.is("PULLS of the longest and oldest TICKING", fuse.of(0, 6), 99 + 9999);
        fuse.change(0, 0, Due.BIRTHDAY);
        due.is("AGE is nothing to others", fuse.of(0, 6), 99);
        for (int day = 0; day < 22; day++) {
            ParcelBall x = Worlds.atDay(day);
            x.wind(Due.BIRTHDAY, 5);
            due.is("a BIRTHDAY on day " + day, x.of(0, 6), day % 7 == 0 ? 30 : 10);
        }
    }

    private static void lastsOfEachKind() {
        int[] lasts = {0, 30, 0, 0, 0, 0, 10};
        for (int kind = 0; kind < 7; kind++) {
            ParcelBall x = piece(kind, 99, 9, true);
            x.change(0, 4, 9999);
            due.is("LASTS of kind " + kind, x.of(0, 7), lasts[kind]);
        }
    }

    /** As many KNOTS as it GIVES take nothing, one more takes 1, 9 take what is above. */
    private static void givesEdges() {
        int[] gives = {0, 0, 0, 2, 3, 5, 0};
        int[] pulls = {60, 60, 60, 60, 60, 30, 120};
        for (int kind = 0; kind < 7; kind++) {
            for (int knots = 0; knots <= 9; knots++) {
                boolean isRow = kind == Due.ROW || kind == Due.LETTER;
                int tight = knots > gives[kind] ? knots - gives[kind] : 0;
                int want = pulls[kind] - (isRow ? knots : 0) - tight;
                due.is("FELT of kind " + kind + " with " + knots, piece(kind, 60, knots, false).of(0, 9), want);
            }
        }
    }

    private static void feltEdges() {
        due.is("as many KNOTS as PULLS", piece(Due.PIECE, 9, 9, true).of(0, 9), 0);
        due.is("one KNOT less", piece(Due.PIECE, 9, 8, true).of(0, 9), 1);
        due.is("more KNOTS than PULLS", piece(Due.PIECE, 1, 9, true).of(0, 9), 0);
        ParcelBall x = Worlds.longest(5);
        due.is("the tenth of the most DEEP", x.of(0, 9), 99 - 693 / 10);
        x.change(0, 2, 69);
        due.is("as much as it PULLS", x.of(0, 9), 0);
        x.change(0, 2, 70);
        due.is("one less than it PULLS", x.of(0, 9), 1);
        x.change(0, 2, 1);
        x.change(0, 3, 9);
        due.is("far more than it PULLS", x.of(0, 9), 0);
    }

    private static void deepEdges() {
        int[] about = {1, 9, 10, 11, 19, 20, 89, 90, 99};
        for (int length : about) {
            ParcelBall x = Due.wound(5, Due.PIECE, Due.PIECE);
            x.change(1, 2, length);
            due.is("DEEP below " + length, x.of(0, 8), length);
            due.is("FELT below " + length, x.of(0, 9), 10 - length / 10);
            due.is("the outermost lies bare", x.of(1, 8), 0);
        }
        ParcelBall full = Worlds.longest(5);
        for (int piece = 0; piece < 8; piece++) {
            due.is("DEEP of " + piece, full.of(piece, 8), 99 * (7 - piece));
        }
    }

    // ---- promise 7

    private static void lendBounds() {
        edges.bounds("lend(#)", Worlds::some, 1, 99, (x, v) -> x.lend(v));
        edges.bounds("lend(#) of full", Worlds::full, 1, 99, (x, v) -> x.lend(v));
        edges.beside("lend(#) of none, BEYOND before STATE", Worlds::none, 1, 99, (x, v) -> x.lend(v));
        edges.refused("lend(1) of none", Worlds::none, x -> x.lend(1), Due.STATE);
        edges.refused("lend(99) of none", Worlds::none, x -> x.lend(99), Due.STATE);
    }

    private static ParcelBall outermost(int length) {
        ParcelBall x = Due.wound(5, Due.PIECE, Due.PIECE);
        x.change(1, 2, length);
        return x;
    }

    /** Longer by one it is cut; as long, or shorter, it is gone. */
    private static void lendCutsOrTakes() {
        int[] lengths = {1, 2, 10, 98, 99};
        for (int length : lengths) {
            for (int n = 1; n <= 99; n++) {
                ParcelBall x = outermost(length);
                String call = "lend(" + n + ") of " + length;
                due.is(call, x.lend(n), length);
                due.is("pieces behind " + call, x.count(1), length > n ? 2 : 1);
                due.is("LONG behind " + call, x.of(1, 2), length > n ? length - n : Due.BEYOND);
                due.is("LONG of all behind " + call, x.count(3), 10 + Math.max(0, length - n));
            }
        }
    }

    private static void lendEmptiesSpots() {
        ParcelBall x = Due.wound(5, Due.PIECE, Due.PIECE);
        for (int spot = 0; spot < 10; spot++) {
            x.hold(spot, 1);
        }
        x.lend(9);
        due.is("what is cut is held still", x.count(7), 10);
        x.lend(1);
        due.is("what is gone none holds", x.count(7), 0);
        for (int spot = 0; spot < 10; spot++) {
            due.is("spot " + spot, x.as(spot, 0), Due.MISSING);
            x.hold(spot, 0);
        }
        x.wind(Due.PIECE, 5);
        x.hold(3, 1);
        x.lend(99);
        due.is("the others hold what they held", x.count(7), 9);
        due.is("spot 2", x.as(2, 0), 0);
        due.is("spot 3", x.as(3, 0), Due.MISSING);
    }

    private static void lendToTheLast() {
        ParcelBall x = Worlds.longest(5);
        for (int left = 7; left >= 0; left--) {
            due.is("lend(99) to " + left, x.lend(99), 99);
            due.is("pieces left", x.count(1), left);
        }
        due.is("lend(99) of none left", x.lend(99), Due.STATE);
        due.is("LONG of none left", x.count(3), 0);
        due.is("wind() behind it", x.wind(Due.PIECE, 5), 0);
    }

    // ---- promise 8

    private static void feltBounds() {
        edges.bounds("felt(#) of none", Worlds::none, 0, 11, (x, v) -> x.felt(v));
        edges.bounds("felt(#) of full", Worlds::full, 0, 11, (x, v) -> x.felt(v));
        edges.tells("felt(5) of none", Worlds::none, x -> x.felt(5), 0);
        for (int place = 0; place < 12; place++) {
            int p = place;
            int all = 8 * 99 - (9 + 19 + 29 + 39 + 49 + 59 + 69);
            edges.tells("felt(" + p + ") of all", () -> Worlds.longest(p), x -> x.felt(p), all);
            edges.tells("felt() beside " + p, () -> Worlds.longest(p), x -> x.felt((p + 1) % 12), 0);
        }
    }
}
