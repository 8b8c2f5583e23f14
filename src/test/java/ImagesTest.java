/** Promises 38 to 42: image, undo, tear, count, status. */
public final class ImagesTest {
    private static final Due due = new Due("ImagesTest");

    public static void main(String[] args) {
        image();
        latest();
        tear();
        notKept();
        count();
        status();
        findingsChangeNothing();
        due.end();
    }

    private static void image() {
        ParcelBall x = Due.wound(5, Due.FUSE, Due.LETTER);
        x.change(1, 1, 7);
        x.change(1, 2, 77);
        x.change(1, 3, 3);
        x.change(1, 4, 44);
        x.change(1, 5, 55);
        x.drag(33);
        x.seed(-9);
        x.hold(2, 1);
        x.go(12);
        long[] kept = all(x);
        due.is("image()", x.image(), 1);
        x.ball(0);
        x.drag(0);
        x.change(0, 0, Due.ROW);
        x.change(1, 1, 0);
        x.change(1, 3, 9);
        x.change(1, 5, 1);
        x.parcels(20);
        x.hold(0, 0);
        x.hold(2, -1);
        x.lend(99);
        x.lend(99);
        x.wind(Due.PIECE, 1);
        due.is("undo()", x.undo(), 12);
        same("all as kept", all(x), kept);
        x.go(30);
        due.is("undo() once more", x.undo(), 12);
        same("all as kept still", all(x), kept);
    }

    private static long[] all(ParcelBall x) {
        long[] told = new long[60];
        int n = 0;
        for (int what = 0; what < 8; what++) {
            told[n++] = x.count(what);
        }
        for (int piece = 0; piece < 3; piece++) {
            for (int what = 0; what < 10; what++) {
                told[n++] = x.of(piece, what);
            }
        }
        for (int spot = 0; spot < 10; spot++) {
            told[n++] = x.as(spot, 0);
        }
        int drag = x.drag(0);
        x.drag(drag);
        told[n] = drag;
        return told;
    }

    private static void same(String what, long[] got, long[] want) {
        for (int i = 0; i < want.length; i++) {
            due.is(what + " " + i, got[i], want[i]);
        }
    }

    private static void latest() {
        ParcelBall x = new ParcelBall();
        x.image();
        x.wind(Due.PIECE, 11);
        x.image();
        x.wind(Due.PIECE, 11);
        x.undo();
        due.is("what was kept latest", x.count(1), 1);
        x.undo();
        due.is("it stays", x.count(1), 1);
        x.change(0, 2, 44);
        x.undo();
        due.is("what is done behind undo() does not reach it", x.of(0, 2), 10);
    }

    private static void tear() {
        ParcelBall x = new ParcelBall();
        due.is("tear() of none", x.tear(), 0);
        x.image();
        x.image();
        due.is("tear()", x.tear(), 1);
        due.is("tear() again", x.tear(), 0);
        due.is("undo() of none", x.undo(), Due.NONE);
        x.image();
        due.is("undo() of DAY 0", x.undo(), 0);
    }

    private static void notKept() {
        ParcelBall x = Due.wound(5, Due.PIECE);
        Due.feed(x, "ab");
        Due.sheet(x, 0, 8, 5);
        x.image();
        Due.feed(x, "cd");
        x.write(0, 0, 6);
        x.sheet(1, 8, 1);
        x.ball(12);
        x.undo();
        due.is("THE TAPE stays", x.count(5), 4);
        due.is("a SHEET stays", x.judge(0), 1);
        due.is("another SHEET stays", x.judge(1), 1);
        due.is("status stays", x.status(-1), 1);
    }

    private static void count() {
        ParcelBall x = Due.wound(5, Due.FUSE, Due.PIECE, Due.PIECE);
        x.change(1, 2, 40);
        x.ball(7);
        x.drag(99);
        x.go(11);
        x.seed(-5);
        x.hold(0, 1);
        x.hold(1, 1);
        Due.feed(x, "twine");
        int[] want = {11, 3, 7, 10 + 20 + 5, 1, 5, -5, 2};
        for (int what = 0; what < 8; what++) {
            due.is("count(" + what + ")", x.count(what), want[what]);
        }
        due.is("count(8)", x.count(8), Due.BEYOND);
        due.is("count(-1)", x.count(-1), Due.BEYOND);
    }

    /** So many of each: 1 BEYOND, 2 FULL, 3 KIND, 4 NONE, 5 STATE, 6 MISSING, 7 SIZE. */
    private static void status() {
        ParcelBall x = new ParcelBall();
        for (int i = 0; i < 5; i++) {
            x.lend(1);
        }
        for (int i = 0; i < 8; i++) {
            x.wind(Due.PIECE, 5);
        }
        x.wind(Due.PIECE, 5);
        x.wind(Due.PIECE, 5);
        x.hold(0, 0);
        for (int i = 0; i < 3; i++) {
            x.as(0, Due.ROW);
        }
        for (int i = 0; i < 4; i++) {
            x.off();
        }
        for (int i = 0; i < 6; i++) {
            x.load(3);
        }
        for (int i = 0; i < 7; i++) {
            x.sheet(3, 8, -1);
        }
        x.odds(18, 0);
        for (int which = 0; which < 7; which++) {
            due.is("status(" + which + ")", x.status(which), which + 1);
        }
        due.is("status(-1)", x.status(-1), 28);
        due.is("status(7)", x.status(7), Due.BEYOND);
        due.is("counted from then on", x.status(-1), 29);
        due.is("status(-2)", x.status(-2), Due.BEYOND);
        due.is("counted as BEYOND", x.status(0), 3);
        x.image();
        x.ball(99);
        x.undo();
        due.is("undo() takes none back", x.status(0), 4);
    }

    private static void findingsChangeNothing() {
        ParcelBall x = Due.wound(3, 0, 1, 2, 3, 4, 5, 6, 0);
        x.hold(3, 4);
        long[] before = all(x);
        x.ball(12);
        x.drag(100);
        x.wind(7, 0);
        x.wind(0, 0);
        x.change(0, 2, 0);
        x.lend(100);
        x.go(61);
        x.parcels(21);
        x.feed(0, 5);
        x.hold(3, 8);
        x.hold(10, 0);
        x.load(0);
        x.undo();
        same("as before", all(x), before);
    }
}
