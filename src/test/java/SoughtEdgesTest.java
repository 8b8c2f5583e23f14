import java.util.Arrays;

/** The edges that promises 16 to 24 name, each by itself. */
public final class SoughtEdgesTest {
    private static final Due due = new Due("SoughtEdgesTest");
    private static final Edges edges = new Edges(due);

    public static void main(String[] args) {
        unwindBounds();
        unwindByTheInnermost();
        hadBounds();
        hadJustSo();
        drawToBounds();
        drawToNearest();
        longForBounds();
        longForLeastAndMost();
        kindForBounds();
        kindForMost();
        dragForBounds();
        dragForGreatestAndLeast();
        loosenBounds();
        loosenNoneAndAll();
        loosenFewestThenLeast();
        loosenedStillGoOff();
        waysBounds();
        waysFindingsInTheirOrder();
        fitsOfNoneAndForty();
        fitsOfEachNumber();
        kindsOfNoneAndForty();
        nothingChanges();
        due.end();
    }

    /** A ball at 0 on a day with one BIRTHDAY to 11: it goes on multiples of 7 alone if DRAG holds it else. */
    private static ParcelBall birthday(int day, int length, int drag) {
        ParcelBall x = new ParcelBall();
        x.go(day);
        x.ball(0);
        x.wind(Due.BIRTHDAY, 11);
        x.change(0, 2, length);
        x.drag(drag);
        return x;
    }

    // ---- promise 16

    private static void unwindBounds() {
        edges.bounds("unwind(#) of none", Worlds::none, 0, 0, (x, v) -> x.unwind(v));
        edges.bounds("unwind(#) of some", Worlds::some, 0, 7, (x, v) -> x.unwind(v));
        edges.bounds("unwind(#) of full", Worlds::full, 0, 255, (x, v) -> x.unwind(v));
        for (int bit = 3; bit < 32; bit++) {
            int set = 1 << bit;
            edges.refused("unwind of bit " + set, Worlds::some, x -> x.unwind(set), Due.BEYOND);
            edges.refused("unwind of all and bit " + set, Worlds::some, x -> x.unwind(7 | set), Due.BEYOND);
        }
    }

    private static void unwindByTheInnermost() {
        edges.tells("unwind(0) of none", Worlds::none, x -> x.unwind(0), 0);
        edges.tells("unwind(0) of all", () -> Worlds.longest(5), x -> x.unwind(0), 0);
        ParcelBall x = Worlds.longest(5);
        for (int set = 1; set < 256; set++) {
            int innermost = Integer.numberOfTrailingZeros(set);
            due.is("unwind(" + set + ")", x.unwind(set), 99 * (8 - innermost));
        }
        due.is("it is still wound", x.count(3), 792);
    }

    // ---- promise 17

    private static void hadBounds() {
        edges.bounds("had(#) of none", Worlds::none, 0, 999, (x, v) -> x.had(v));
        edges.bounds("had(#) of some", Worlds::some, 0, 999, (x, v) -> x.had(v));
        edges.bounds("had(#) of full", Worlds::full, 0, 999, (x, v) -> x.had(v));
        edges.tells("had(0) of none", Worlds::none, x -> x.had(0), 0);
        edges.tells("had(999) of none", Worlds::none, x -> x.had(999), 0);
    }

    private static void hadJustSo() {
        for (int v = 0; v <= 999; v++) {
            due.is("had(" + v + ")", Worlds.longest(5).had(v), Math.min(8, v / 99));
        }
        ParcelBall y = Due.wound(5, Due.PIECE);
        y.change(0, 2, 1);
        due.is("had(0) of 1", y.had(0), 0);
        due.is("had(1) of 1", y.had(1), 1);
    }

    // ---- promise 18

    private static void drawToBounds() {
        edges.bounds("drawTo(#, 3, 5) of some", Worlds::some, 0, 2, (x, v) -> x.drawTo(v, 3, 5));
        edges.bounds("drawTo(#, 3, 5) of full", Worlds::full, 0, 7, (x, v) -> x.drawTo(v, 3, 5));
        edges.beside("drawTo(#, 3, 5) of none", Worlds::none, 0, -1, (x, v) -> x.drawTo(v, 3, 5));
        edges.bounds("drawTo(1, #, 5)", Worlds::some, 0, 11, (x, v) -> x.drawTo(1, v, 5));
        edges.bounds("drawTo(1, 3, #)", Worlds::some, 0, 40, (x, v) -> x.drawTo(1, 3, v));
    }

    /** Six multiples of 7 within 40 days from DAY 3 on, five within 39. */
    private static void drawToNearest() {
        Edges.Made made = () -> birthday(3, 10, 10);
        edges.tells("drawTo() behind 40 days", made, x -> x.drawTo(0, 11, 40), 6);
        edges.tells("drawTo() behind 39 days", made, x -> x.drawTo(0, 11, 39), 5);
        edges.tells("drawTo() behind 0 days: all alike", made, x -> x.drawTo(0, 11, 0), 0);
        edges.tells("drawTo() to where it is: the least", made, x -> x.drawTo(0, 0, 40), 0);
        for (int place = 0; place < 12; place++) {
            ParcelBall x = Due.wound(5, Due.PIECE);
            x.change(0, 2, 99);
            due.is("drawTo() far enough", x.drawTo(0, place, 40), place);
            due.is("drawTo() in a day", x.drawTo(0, place, 1), place < 5 ? 0 : place == 5 ? 5 : 6);
        }
    }

    // ---- promise 19

    private static void longForBounds() {
        edges.bounds("longFor(#, 6, 5) of some", Worlds::some, 0, 2, (x, v) -> x.longFor(v, 6, 5));
        edges.bounds("longFor(#, 6, 5) of full", Worlds::full, 0, 7, (x, v) -> x.longFor(v, 6, 5));
        edges.beside("longFor(#, 6, 5) of none", Worlds::none, 0, -1, (x, v) -> x.longFor(v, 6, 5));
        edges.bounds("longFor(1, #, 5)", Worlds::some, 0, 11, (x, v) -> x.longFor(1, v, 5));
        edges.bounds("longFor(1, 6, #)", Worlds::some, 0, 40, (x, v) -> x.longFor(1, 6, v));
    }

    private static void longForLeastAndMost() {
        Edges.Made made = () -> birthday(3, 10, 99);
        edges.tells("thrice 34 is above 99", made, x -> x.longFor(0, 6, 40), 34);
        edges.refused("longFor(0, 6, 39)", made, x -> x.longFor(0, 6, 39), Due.NONE);
        edges.tells("longFor(0, 5, 39)", made, x -> x.longFor(0, 5, 39), 34);
        edges.refused("longFor(0, 5, 40)", made, x -> x.longFor(0, 5, 40), Due.NONE);
        edges.tells("where it is, behind 0 days: 1", made, x -> x.longFor(0, 0, 0), 1);
        edges.refused("another place, behind 0 days", made, x -> x.longFor(0, 1, 0), Due.NONE);
        for (int drag = 0; drag <= 98; drag++) {
            ParcelBall x = Due.wound(11, Due.PIECE);
            x.drag(drag);
            due.is("longFor() against " + drag, x.longFor(0, 6, 1), drag + 1);
        }
        Edges.Made held = () -> held(99);
        edges.refused("99 is not above 99", held, x -> x.longFor(0, 6, 1), Due.NONE);
    }

    private static ParcelBall held(int drag) {
        ParcelBall x = Due.wound(11, Due.PIECE);
        x.drag(drag);
        return x;
    }

    // ---- promise 20

    private static void kindForBounds() {
        edges.bounds("kindFor(#, 5) of some", Worlds::some, 0, 2, (x, v) -> x.kindFor(v, 5));
        edges.bounds("kindFor(#, 5) of full", Worlds::full, 0, 7, (x, v) -> x.kindFor(v, 5));
        edges.beside("kindFor(#, 5) of none", Worlds::none, 0, -1, (x, v) -> x.kindFor(v, 5));
        edges.bounds("kindFor(1, #)", Worlds::some, 0, 40, (x, v) -> x.kindFor(1, v));
    }

    /** On the 40th day a BIRTHDAY comes to 6, a ROW and a LETTER with it; no other is FELT above 99. */
    private static void kindForMost() {
        Edges.Made made = SoughtEdgesTest::toSix;
        edges.tells("kindFor(0, 40)", made, x -> x.kindFor(0, 40), Due.BIRTHDAY);
        edges.tells("kindFor(0, 39): all alike", made, x -> x.kindFor(0, 39), Due.PIECE);
        edges.tells("kindFor(0, 0): all alike", made, x -> x.kindFor(0, 0), Due.PIECE);
        ParcelBall x = toSix();
        x.change(0, 5, 9999);
        due.is("CAME is 9999 of all: the least", x.kindFor(0, 40), Due.PIECE);
        x.change(0, 5, 9998);
        due.is("CAME becomes 9999 of one", x.kindFor(0, 40), Due.BIRTHDAY);
    }

    private static ParcelBall toSix() {
        ParcelBall x = birthday(3, 40, 99);
        x.change(0, 0, Due.HERS);
        x.change(0, 1, 6);
        return x;
    }

    // ---- promise 21

    private static void dragForBounds() {
        edges.bounds("dragFor(#, 5) of none", Worlds::none, 0, 11, (x, v) -> x.dragFor(v, 5));
        edges.bounds("dragFor(#, 5) of some", Worlds::some, 0, 11, (x, v) -> x.dragFor(v, 5));
        edges.bounds("dragFor(6, #)", Worlds::some, 0, 40, (x, v) -> x.dragFor(6, v));
    }

    private static void dragForGreatestAndLeast() {
        Edges.Made made = () -> birthday(3, 10, 10);
        edges.tells("29 is below thrice 10", made, x -> x.dragFor(6, 40), 29);
        edges.refused("dragFor(6, 39)", made, x -> x.dragFor(6, 39), Due.NONE);
        edges.tells("dragFor(5, 39)", made, x -> x.dragFor(5, 39), 29);
        edges.tells("where it is, behind 0 days: 99", made, x -> x.dragFor(0, 0), 99);
        edges.refused("another place, behind 0 days", made, x -> x.dragFor(1, 0), Due.NONE);
        edges.tells("where it is, of none: 99", Worlds::none, x -> x.dragFor(5, 40), 99);
        edges.refused("another place, of none", Worlds::none, x -> x.dragFor(4, 40), Due.NONE);
        for (int length = 1; length <= 99; length++) {
            ParcelBall x = Due.wound(11, Due.PIECE);
            x.change(0, 2, length);
            due.is("dragFor() below " + length, x.dragFor(6, 1), length - 1);
        }
    }

    // ---- promise 22

    private static void loosenBounds() {
        edges.bounds("loosen(#, 5) of none", Worlds::none, 0, 11, (x, v) -> x.loosen(v, 5));
        edges.bounds("loosen(#, 5) of some", Worlds::some, 0, 11, (x, v) -> x.loosen(v, 5));
        edges.bounds("loosen(6, #)", Worlds::some, 0, 20, (x, v) -> x.loosen(6, v));
        Edges.Made made = () -> birthday(2, 10, 10);
        edges.tells("three multiples of 7 within 20 days", made, x -> x.loosen(3, 20), 0);
        edges.refused("two within 19", made, x -> x.loosen(3, 19), Due.NONE);
        edges.tells("loosen(2, 19)", made, x -> x.loosen(2, 19), 0);
        edges.tells("loosen(0, 0)", made, x -> x.loosen(0, 0), 0);
        edges.refused("loosen(1, 0)", made, x -> x.loosen(1, 0), Due.NONE);
    }

    private static void loosenNoneAndAll() {
        edges.tells("of none", Worlds::none, x -> x.loosen(5, 20), 0);
        edges.refused("another place, of none", Worlds::none, x -> x.loosen(6, 20), Due.NONE);
        for (int pieces = 1; pieces <= 8; pieces++) {
            int[] kinds = new int[pieces];
            Arrays.fill(kinds, Due.BIRTHDAY);
            int all = (1 << pieces) - 1;
            edges.tells("all of " + pieces, () -> undragged(kinds), x -> x.loosen(5, 1), all);
            edges.tells("none of " + pieces, () -> undragged(kinds), x -> x.loosen(6, 1), 0);
        }
    }

    /** Any one of these is enough to draw it up. */
    private static ParcelBall undragged(int[] kinds) {
        ParcelBall x = Due.wound(11, kinds);
        x.drag(0);
        return x;
    }

    private static ParcelBall down(int drag, int... lengths) {
        ParcelBall x = new ParcelBall();
        for (int i = 0; i < lengths.length; i++) {
            x.wind(Due.PIECE, 0);
            x.change(i, 2, lengths[i]);
        }
        x.drag(drag);
        return x;
    }

    /** The lengths are such that FELT is a round number. */
    private static void loosenFewestThenLeast() {
        Edges.Made three = () -> down(25, 13, 12, 20);
        edges.tells("FELT 10, 10, 20 against 25: one, not two of lesser number", three, x -> x.loosen(5, 1), 4);
        Edges.Made four = () -> down(60, 31, 37, 34, 40);
        edges.tells("FELT 20, 30, 30, 40 against 60: of pairs the least", four, x -> x.loosen(5, 1), 2 | 4);
        edges.tells("FELT 20, 30, 30, 40: none", four, x -> x.loosen(4, 1), 0);
        Edges.Made alike = () -> down(35, 13, 12, 11, 10);
        edges.tells("FELT 10 each against 35: of four the least", alike, x -> x.loosen(5, 1), 1);
        Edges.Made last = () -> down(9, 1, 1, 1, 1, 1, 1, 1, 10);
        edges.tells("the last of eight alone", last, x -> x.loosen(5, 1), 128);
    }

    /** It halves what lies about it though it isn't FELT: else the ball would come to 7. */
    private static void loosenedStillGoOff() {
        Edges.Made made = SoughtEdgesTest::fuseWithin;
        edges.tells("by itself it comes to 7", made, x -> x.where(2), 7);
        edges.tells("the FUSE loosened", made, x -> x.loosen(6, 2), 1);
    }

    private static ParcelBall fuseWithin() {
        ParcelBall x = Due.wound(11, Due.FUSE, Due.PIECE);
        x.change(0, 4, 9);
        x.change(1, 2, 20);
        x.drag(15);
        return x;
    }

    // ---- promises 23 and 24

    private static void waysBounds() {
        edges.bounds("fits(#, 0)", Worlds::full, 0, 3, (x, v) -> x.fits(v, 0));
        edges.bounds("kinds(#, 0)", Worlds::full, 0, 3, (x, v) -> x.kinds(v, 0));
        edges.bounds("fits(2, #) of some", Worlds::some, 0, 2, (x, v) -> x.fits(2, v));
        edges.bounds("kinds(2, #) of some", Worlds::some, 0, 2, (x, v) -> x.kinds(2, v));
        edges.bounds("fits(0, #) of full", Worlds::full, 0, 7, (x, v) -> x.fits(0, v));
        edges.bounds("kinds(0, #) of full", Worlds::full, 0, 7, (x, v) -> x.kinds(0, v));
    }

    private static void waysFindingsInTheirOrder() {
        int[] pieces = {-1, 0, 2, 3};
        for (int piece : pieces) {
            edges.beside("fits(#, " + piece + ")", Worlds::some, 0, 3, (x, v) -> x.fits(v, piece));
            edges.beside("kinds(#, " + piece + ")", Worlds::some, 0, 3, (x, v) -> x.kinds(v, piece));
            edges.refused("fits(3, " + piece + ")", Worlds::some, x -> x.fits(3, piece), Due.MISSING);
            edges.refused("kinds(3, " + piece + ")", Worlds::some, x -> x.kinds(3, piece), Due.MISSING);
        }
        edges.refused("fits(1, 0) of no piece", SoughtEdgesTest::sheetAlone, x -> x.fits(1, 0), Due.BEYOND);
        edges.refused("kinds(1, 0) of no piece", SoughtEdgesTest::sheetAlone, x -> x.kinds(1, 0), Due.BEYOND);
    }

    private static ParcelBall sheetAlone() {
        ParcelBall x = new ParcelBall();
        x.sheet(1, 8, 0);
        return x;
    }

    /** A sheet of so many numbers, all any but the last. */
    private static void lastOf(ParcelBall x, int many, int last) {
        int[] numbers = new int[many];
        Arrays.fill(numbers, -1);
        numbers[many - 1] = last;
        Due.sheet(x, 2, 8, numbers);
    }

    private static void fitsOfNoneAndForty() {
        ParcelBall x = birthday(4, 10, 10);
        x.sheet(2, 8, 0);
        due.is("fits of no numbers", x.fits(2, 0), 0xfff);
        lastOf(x, 40, -1);
        due.is("fits of forty times any", x.fits(2, 0), 0xfff);
        lastOf(x, 40, 6);
        due.is("fits behind 39 days", x.fits(2, 0), 0xfc0);
        lastOf(x, 40, 5);
        due.is("fits behind 39 days at 5", x.fits(2, 0), 1 << 5);
        lastOf(x, 39, 5);
        due.is("fits behind 38 days", x.fits(2, 0), 0xfe0);
        lastOf(x, 1, 0);
        due.is("fits now", x.fits(2, 0), 0xfff);
        lastOf(x, 1, 1);
        due.is("fits not now", x.fits(2, 0), 0);
    }

    /** The ball can be at 5 alone: of all numbers only that and any fit. */
    private static void fitsOfEachNumber() {
        for (int bits = 8; bits <= 32; bits *= 2) {
            for (int v = -130; v <= 260; v++) {
                ParcelBall x = Due.wound(5, Due.PIECE);
                Due.sheet(x, 0, bits, v);
                int told = bits == 8 ? (byte) v : v;
                int ways = told == 5 || told == -1 ? 1 : 0;
                String call = v + " of " + bits + " bits";
                due.is("fits " + call, x.fits(0, 0), ways * 0xfff);
                due.is("kinds " + call, x.kinds(0, 0), ways * 0x7f);
            }
        }
        for (int place = 0; place < 12; place++) {
            ParcelBall x = Due.wound(5, Due.PIECE);
            x.ball(place);
            Due.sheet(x, 0, 8, place, -1, place);
            due.is("fits at " + place, x.fits(0, 0), 0xfff);
            due.is("kinds at " + place, x.kinds(0, 0) & 1, 1);
        }
    }

    private static void kindsOfNoneAndForty() {
        ParcelBall x = birthday(4, 40, 99);
        x.sheet(2, 8, 0);
        due.is("kinds of no numbers", x.kinds(2, 0), 127);
        lastOf(x, 40, -1);
        due.is("kinds of forty times any", x.kinds(2, 0), 127);
        lastOf(x, 40, 6);
        due.is("kinds behind 39 days", x.kinds(2, 0), 1 << 2 | 1 << 3 | 1 << 4);
        lastOf(x, 40, 0);
        due.is("kinds behind 39 days at 0", x.kinds(2, 0), 1 << 0 | 1 << 1 | 1 << 5 | 1 << 6);
        lastOf(x, 40, 5);
        due.is("kinds behind 39 days at 5", x.kinds(2, 0), 0);
        lastOf(x, 39, 5);
        due.is("kinds behind 38 days", x.kinds(2, 0), 1 << 2 | 1 << 3 | 1 << 4);
    }

    private static void nothingChanges() {
        Edges.Made[] worlds = {Worlds::some, Worlds::full};
        for (Edges.Made made : worlds) {
            edges.changesNothing("unwind(5)", made, x -> x.unwind(5));
            edges.changesNothing("had(70)", made, x -> x.had(70));
            edges.changesNothing("drawTo(1, 2, 40)", made, x -> x.drawTo(1, 2, 40));
            edges.changesNothing("longFor(1, 2, 40)", made, x -> x.longFor(1, 2, 40));
            edges.changesNothing("kindFor(1, 40)", made, x -> x.kindFor(1, 40));
            edges.changesNothing("dragFor(2, 40)", made, x -> x.dragFor(2, 40));
            edges.changesNothing("loosen(2, 20)", made, x -> x.loosen(2, 20));
            edges.changesNothing("fits(0, 1)", made, x -> x.fits(0, 1));
            edges.changesNothing("kinds(0, 1)", made, x -> x.kinds(0, 1));
        }
    }
}
