/** The edges that promises 38 to 42 and the terms of findings name, each by itself. */
public final class ImagesEdgesTest {
    private static final Due due = new Due("ImagesEdgesTest");
    private static final Edges edges = new Edges(due);

    public static void main(String[] args) {
        keptIsAllBut();
        keptIsEachByItself();
        tapeAndSheetsAreNotKept();
        latestIsKept();
        undoOfNone();
        undoTellsDay();
        tearOnce();
        countBounds();
        countOfNoneAndFull();
        statusBounds();
        statusOfEachFinding();
        statusIsTakenBackByNone();
        zIsNoFinding();
        faultIsNoFinding();
        lastCallThatIsPromised();
        due.end();
    }

    // ---- promise 38

    private interface Change {
        void on(ParcelBall x);
    }

    /** Whatever is done, undo() makes it as one to which it was never done. */
    private static void takenBack(String name, Change change) {
        Edges.Made[] worlds = {Worlds::none, Worlds::some, Worlds::full};
        for (Edges.Made made : worlds) {
            ParcelBall done = made.make();
            due.is("image() before " + name, done.image(), 1);
            change.on(done);
            ParcelBall left = made.make();
            left.image();
            due.is("undo() of " + name, done.undo(), left.count(0));
            edges.alike(name + " and undo()", done, left);
        }
    }

    private static void keptIsAllBut() {
        takenBack("nothing", x -> { });
        takenBack("much", x -> {
            x.lend(99);
            x.wind(Due.FUSE, 11);
            x.drag(0);
            x.change(0, 2, 99);
            x.seed(99);
            x.hold(9, 0);
            x.go(60);
            x.parcels(20);
            x.ball(0);
        });
    }

    private static void keptIsEachByItself() {
        takenBack("ball()", x -> x.ball(11));
        takenBack("drag()", x -> x.drag(99));
        takenBack("wind()", x -> x.wind(Due.FUSE, 11));
        takenBack("lend()", x -> x.lend(99));
        takenBack("lend() of a bit", x -> x.lend(1));
        takenBack("go()", x -> x.go(60));
        takenBack("parcels()", x -> x.parcels(20));
        takenBack("seed()", x -> x.seed(-5));
        int[] most = {6, 11, 99, 9, 9999, 9998};
        for (int piece = 0; piece < 8; piece++) {
            for (int what = 0; what < 6; what++) {
                int p = piece;
                int w = what;
                takenBack("change(" + p + ", " + w + ")", x -> x.change(p, w, most[w]));
            }
        }
        for (int spot = 0; spot < 10; spot++) {
            int s = spot;
            takenBack("hold(" + s + ", -1)", x -> x.hold(s, -1));
            takenBack("hold(" + s + ", 1)", x -> x.hold(s, 1));
        }
    }

    /** What was done to these before undo() is so behind it, too. */
    private static void tapeAndSheetsAreNotKept() {
        staysDone("feed()", x -> x.feed(0x3b3b3b, 3));
        staysDone("wipe()", x -> x.wipe());
        for (int s = 0; s < 4; s++) {
            int sheet = s;
            staysDone("sheet(" + s + ", 16, 4)", x -> x.sheet(sheet, 16, 4));
            staysDone("sheet(" + s + ", 0, 0)", x -> x.sheet(sheet, 0, 0));
            staysDone("write(" + s + ", 1, 77)", x -> x.write(sheet, 1, 77));
            staysDone("copy(" + s + ", 0, " + s + ", 1, 1)", x -> x.copy(sheet, 0, sheet, 1, 1));
        }
    }

    private static void staysDone(String name, Change change) {
        Edges.Made[] worlds = {Worlds::none, Worlds::some, Worlds::full};
        for (Edges.Made made : worlds) {
            ParcelBall undone = made.make();
            undone.image();
            change.on(undone);
            undone.undo();
            ParcelBall done = made.make();
            done.image();
            change.on(done);
            edges.alike(name + " behind undo()", undone, done);
        }
    }

    private static void latestIsKept() {
        ParcelBall x = new ParcelBall();
        for (int place = 0; place < 12; place++) {
            x.ball(place);
            due.is("image() at " + place, x.image(), 1);
        }
        x.ball(3);
        for (int i = 0; i < 3; i++) {
            x.undo();
            due.is("the latest, again and again", x.ball(i), 11);
        }
        x.wind(Due.PIECE, 1);
        x.undo();
        due.is("it stays as it was kept", x.count(1), 0);
    }

    // ---- promises 39 and 40

    private static void undoOfNone() {
        edges.refused("undo() of none", Worlds::none, x -> x.undo(), Due.NONE);
        edges.refused("undo() of what is torn", ImagesEdgesTest::torn, x -> x.undo(), Due.NONE);
    }

    private static ParcelBall torn() {
        ParcelBall x = Worlds.full();
        x.tear();
        return x;
    }

    private static void undoTellsDay() {
        ParcelBall x = new ParcelBall();
        x.image();
        due.is("undo() to DAY 0", x.undo(), 0);
        x.go(60);
        due.is("undo() from DAY 60", x.undo(), 0);
        x.go(60);
        x.image();
        x.go(1);
        due.is("undo() to DAY 60", x.undo(), 60);
        due.is("DAY 60", x.count(0), 60);
        ParcelBall last = Worlds.atDay(99999);
        last.image();
        due.is("undo() to DAY 99999", last.undo(), 99999);
        due.is("no finding", x.status(-1) + last.status(-1), 0);
    }

    private static void tearOnce() {
        edges.tells("tear() of none", Worlds::none, x -> x.tear(), 0);
        ParcelBall x = Worlds.some();
        due.is("tear()", x.tear(), 1);
        due.is("tear() again", x.tear(), 0);
        due.is("undo() of none", x.undo(), Due.NONE);
        due.is("tear() behind undo()", x.tear(), 0);
        due.is("all else stays", x.count(0), 15);
        due.is("image()", x.image(), 1);
        due.is("tear() of it", x.tear(), 1);
        ParcelBall y = Worlds.some();
        y.image();
        y.undo();
        due.is("undo() leaves it kept", y.tear(), 1);
    }

    // ---- promise 41

    private static void countBounds() {
        edges.bounds("count(#) of none", Worlds::none, 0, 7, (x, v) -> x.count(v));
        edges.bounds("count(#) of some", Worlds::some, 0, 7, (x, v) -> x.count(v));
        edges.bounds("count(#) of full", Worlds::full, 0, 7, (x, v) -> x.count(v));
    }

    private static void countOfNoneAndFull() {
        int[] none = {0, 0, 5, 0, 0, 0, 1, 0};
        ParcelBall full = Worlds.longest(5);
        full.ball(11);
        full.seed(-1);
        for (int spot = 0; spot < 10; spot++) {
            full.hold(spot, 7);
        }
        Due.feed(full, " ".repeat(120));
        int[] most = {0, 8, 11, 792, 0, 120, -1, 10};
        for (int what = 0; what < 8; what++) {
            int w = what;
            edges.tells("count(" + w + ") of none", Worlds::none, x -> x.count(w), none[w]);
            due.is("count(" + w + ") of the most", full.count(w), most[w]);
        }
    }

    // ---- promise 42

    private static void statusBounds() {
        edges.bounds("status(#) of none", Worlds::none, -1, 6, (x, v) -> x.status(v));
        edges.bounds("status(#) of some", Worlds::some, -1, 6, (x, v) -> x.status(v));
        ParcelBall x = new ParcelBall();
        for (int which = -1; which < 7; which++) {
            due.is("status(" + which + ") of new", x.status(which), 0);
        }
        for (int i = 0; i < 5; i++) {
            due.is("status(7)", x.status(7), Due.BEYOND);
            due.is("counted from then on", x.status(0), 2 * i + 1);
            due.is("status(-2)", x.status(-2), Due.BEYOND);
            due.is("counted among all", x.status(-1), 2 * i + 2);
        }
    }

    /** An act of each finding, one more of it each time; no other grows. */
    private static void statusOfEachFinding() {
        Edges.Act[] acts = {x -> x.ball(12), x -> x.feed(0, 4), x -> x.as(0, 6), x -> x.off(), x -> x.lend(1),
            x -> x.load(3), x -> x.sheet(0, 0, -1)};
        for (int which = 0; which < 7; which++) {
            ParcelBall x = new ParcelBall();
            if (which == 1) {
                Due.feed(x, " ".repeat(118));
            }
            if (which == 2) {
                x.wind(Due.PIECE, 5);
                x.hold(0, 0);
            }
            for (int times = 1; times <= 50; times++) {
                due.is("finding " + which, acts[which].on(x), Due.BEYOND - which);
                for (int other = -1; other < 7; other++) {
                    int want = other == -1 || other == which ? times : 0;
                    due.is("status(" + other + ") of finding " + which, x.status(other), want);
                }
            }
        }
    }

    private static void statusIsTakenBackByNone() {
        ParcelBall x = Worlds.some();
        x.image();
        x.ball(12);
        x.load(3);
        x.undo();
        x.tear();
        x.wipe();
        x.text();
        x.image();
        x.undo();
        due.is("BEYOND", x.status(0), 1);
        due.is("MISSING", x.status(5), 1);
        due.is("all", x.status(-1), 2);
    }

    // ---- terms: FINDINGS

    private static void zIsNoFinding() {
        ParcelBall x = new ParcelBall();
        int was = 1;
        for (int z = Due.SIZE - 1; z <= Due.BEYOND + 1; z++) {
            due.is("seed(" + z + ")", x.seed(z), was);
            due.is("count(6) of " + z, x.count(6), z);
            was = z;
        }
        for (int which = -1; which < 7; which++) {
            due.is("status(" + which + ") behind z", x.status(which), 0);
        }
    }

    private static void faultIsNoFinding() {
        for (int n = 0; n <= 120; n++) {
            ParcelBall x = new ParcelBall();
            Due.feed(x, " ".repeat(n));
            due.is("FAULT at " + n, x.text(), -1 - n);
            due.is("no finding by it", x.status(-1), 0);
        }
    }

    // ---- what it is

    /** The 512th call of an object is answered as the first was. */
    private static void lastCallThatIsPromised() {
        ParcelBall refused = new ParcelBall();
        ParcelBall kept = new ParcelBall();
        ParcelBall gone = new ParcelBall();
        for (int call = 1; call <= 511; call++) {
            due.is("refused call " + call, refused.ball(12), Due.BEYOND);
            due.is("image() as call " + call, kept.image(), 1);
            due.is("go(60) as call " + call, gone.go(60), 5);
        }
        due.is("the 512th call: status(-1)", refused.status(-1), 511);
        due.is("the 512th call: undo()", kept.undo(), 0);
        due.is("the 512th call: DAY", gone.count(0), 511 * 60);
    }
}
