/** Promises 16 to 24: unwind, had, drawTo, longFor, kindFor, dragFor, loosen, fits, kinds. */
public final class SoughtTest {
    private static final Due due = new Due("SoughtTest");

    public static void main(String[] args) {
        unwind();
        had();
        drawTo();
        longFor();
        kindFor();
        dragFor();
        loosen();
        loosenFewest();
        fits();
        kinds();
        waysFindings();
        due.end();
    }

    /** LONG 10, 20, 30, all at rest where the ball is. */
    private static ParcelBall three() {
        ParcelBall x = Due.wound(5, Due.PIECE, Due.PIECE, Due.PIECE);
        x.change(1, 2, 20);
        x.change(2, 2, 30);
        return x;
    }

    private static void unwind() {
        ParcelBall x = three();
        int[] want = {0, 60, 50, 60, 30, 60, 50, 60};
        for (int set = 0; set < 8; set++) {
            due.is("unwind(" + set + ")", x.unwind(set), want[set]);
        }
        due.is("unwind(8)", x.unwind(8), Due.BEYOND);
        due.is("unwind(9)", x.unwind(9), Due.BEYOND);
        due.is("unwind(-1)", x.unwind(-1), Due.BEYOND);
        due.is("unwind(min)", x.unwind(Integer.MIN_VALUE), Due.BEYOND);
        ParcelBall all = Due.wound(5, 0, 0, 0, 0, 0, 0, 0, 0);
        due.is("unwind(255)", all.unwind(255), 80);
        due.is("unwind(128)", all.unwind(128), 10);
        due.is("unwind(256)", all.unwind(256), Due.BEYOND);
        due.is("nothing is unwound", all.count(1), 8);
        due.is("unwind(0) of none", new ParcelBall().unwind(0), 0);
        due.is("unwind(1) of none", new ParcelBall().unwind(1), Due.BEYOND);
    }

    private static void had() {
        ParcelBall x = three();
        int[] v = {0, 29, 30, 49, 50, 59, 60, 999};
        int[] want = {0, 0, 1, 1, 2, 2, 3, 3};
        for (int i = 0; i < v.length; i++) {
            due.is("had(" + v[i] + ")", x.had(v[i]), want[i]);
        }
        due.is("had(-1)", x.had(-1), Due.BEYOND);
        due.is("had(1000)", x.had(1000), Due.BEYOND);
        due.is("had(999) of none", new ParcelBall().had(999), 0);
    }

    private static void drawTo() {
        ParcelBall x = Due.wound(5, Due.PIECE);
        x.change(0, 2, 50);
        due.is("drawTo(0, 9, 2): 7 at most, by all from 7 on", x.drawTo(0, 9, 2), 7);
        due.is("drawTo(0, 9, 10)", x.drawTo(0, 9, 10), 9);
        due.is("drawTo(0, 0, 40)", x.drawTo(0, 0, 40), 0);
        due.is("drawTo(0, 11, 40)", x.drawTo(0, 11, 40), 11);
        due.is("drawTo(0, 3, 1): by all below", x.drawTo(0, 3, 1), 0);
        due.is("drawTo(0, 8, 0): all alike", x.drawTo(0, 8, 0), 0);
        due.is("it still draws to 5", x.of(0, 1), 5);
        due.is("the ball stays", x.now(1), 5);
        due.is("drawTo(1, 0, 0)", x.drawTo(1, 0, 0), Due.BEYOND);
        due.is("drawTo(-1, 0, 0)", x.drawTo(-1, 0, 0), Due.BEYOND);
        due.is("drawTo(0, 12, 0)", x.drawTo(0, 12, 0), Due.BEYOND);
        due.is("drawTo(0, -1, 0)", x.drawTo(0, -1, 0), Due.BEYOND);
        due.is("drawTo(0, 0, -1)", x.drawTo(0, 0, -1), Due.BEYOND);
        due.is("drawTo(0, 0, 41)", x.drawTo(0, 0, 41), Due.BEYOND);
    }

    private static void longFor() {
        ParcelBall x = Due.wound(9, Due.PIECE);
        due.is("longFor(0, 7, 2): more than DRAG", x.longFor(0, 7, 2), 11);
        due.is("longFor(0, 5, 0)", x.longFor(0, 5, 0), 1);
        due.is("longFor(0, 7, 3)", x.longFor(0, 7, 3), Due.NONE);
        due.is("longFor(0, 9, 40)", x.longFor(0, 9, 40), 11);
        x.drag(98);
        due.is("longFor(0, 6, 1) against 98", x.longFor(0, 6, 1), 99);
        x.drag(99);
        due.is("longFor(0, 6, 1) against 99", x.longFor(0, 6, 1), Due.NONE);
        due.is("LONG stays", x.of(0, 2), 10);
        due.is("longFor(1, 0, 0)", x.longFor(1, 0, 0), Due.BEYOND);
        due.is("longFor(-1, 0, 0)", x.longFor(-1, 0, 0), Due.BEYOND);
        due.is("longFor(0, 12, 0)", x.longFor(0, 12, 0), Due.BEYOND);
        due.is("longFor(0, -1, 0)", x.longFor(0, -1, 0), Due.BEYOND);
        due.is("longFor(0, 0, -1)", x.longFor(0, 0, -1), Due.BEYOND);
        due.is("longFor(0, 0, 41)", x.longFor(0, 0, 41), Due.BEYOND);
    }

    private static void kindFor() {
        ParcelBall x = Due.wound(6, Due.LETTER);
        due.is("kindFor(0, 0): all alike", x.kindFor(0, 0), 0);
        due.is("kindFor(0, 1): 10 is not above 10, 30 on day 0 is", x.kindFor(0, 1), Due.BIRTHDAY);
        x.change(0, 4, 1);
        due.is("kindFor(0, 1): 11 of a TICKING is, too", x.kindFor(0, 1), Due.TICKING);
        x.drag(12);
        due.is("kindFor(0, 2): 12 is not above 12, 30 is", x.kindFor(0, 2), Due.BIRTHDAY);
        x.go(1);
        x.ball(5);
        x.change(0, 3, 0);
        x.change(0, 4, 0);
        due.is("kindFor(0, 1) on day 1: 20 of a FUSE, 15 of a LETTER", x.kindFor(0, 1), Due.LETTER);
        x.drag(15);
        due.is("kindFor(0, 1) on day 1: 20 of a FUSE alone", x.kindFor(0, 1), Due.FUSE);
        due.is("KIND stays", x.of(0, 0), Due.LETTER);
        due.is("kindFor(1, 0)", x.kindFor(1, 0), Due.BEYOND);
        due.is("kindFor(-1, 0)", x.kindFor(-1, 0), Due.BEYOND);
        due.is("kindFor(0, -1)", x.kindFor(0, -1), Due.BEYOND);
        due.is("kindFor(0, 41)", x.kindFor(0, 41), Due.BEYOND);
        due.is("kindFor(0, 40)", x.kindFor(0, 40), Due.TICKING);
    }

    private static void dragFor() {
        ParcelBall x = Due.wound(9, Due.PIECE);
        x.change(0, 2, 30);
        due.is("dragFor(7, 2)", x.dragFor(7, 2), 29);
        due.is("dragFor(5, 2)", x.dragFor(5, 2), 99);
        due.is("dragFor(7, 3)", x.dragFor(7, 3), Due.NONE);
        due.is("dragFor(9, 40)", x.dragFor(9, 40), 29);
        due.is("dragFor(5, 0)", x.dragFor(5, 0), 99);
        due.is("dragFor(6, 0)", x.dragFor(6, 0), Due.NONE);
        x.change(0, 2, 1);
        due.is("dragFor(6, 1)", x.dragFor(6, 1), 0);
        due.is("DRAG stays", x.drag(10), 10);
        due.is("dragFor(12, 0)", x.dragFor(12, 0), Due.BEYOND);
        due.is("dragFor(-1, 0)", x.dragFor(-1, 0), Due.BEYOND);
        due.is("dragFor(5, -1)", x.dragFor(5, -1), Due.BEYOND);
        due.is("dragFor(5, 41)", x.dragFor(5, 41), Due.BEYOND);
    }

    private static void loosen() {
        ParcelBall x = Due.wound(8, Due.PIECE);
        x.wind(Due.PIECE, 2);
        x.change(0, 2, 50);
        x.change(1, 2, 50);
        due.is("loosen(5, 3): none", x.loosen(5, 3), 0);
        due.is("loosen(8, 3): the one that draws down", x.loosen(8, 3), 2);
        due.is("loosen(2, 3): the one that draws up", x.loosen(2, 3), 1);
        due.is("loosen(2, 2): too few days", x.loosen(2, 2), Due.NONE);
        due.is("loosen(8, 20)", x.loosen(8, 20), 2);
        due.is("loosen(5, 0)", x.loosen(5, 0), 0);
        due.is("loosen(6, 0)", x.loosen(6, 0), Due.NONE);
        ParcelBall up = Due.wound(8, Due.BIRTHDAY, Due.BIRTHDAY);
        due.is("loosen(5, 1): all there are", up.loosen(5, 1), 3);
        due.is("they are loosened for that alone", up.where(1), 6);
        due.is("felt as before", x.felt(2), 50);
        due.is("the ball stays", x.where(3), 5);
        due.is("loosen(12, 0)", x.loosen(12, 0), Due.BEYOND);
        due.is("loosen(-1, 0)", x.loosen(-1, 0), Due.BEYOND);
        due.is("loosen(5, -1)", x.loosen(5, -1), Due.BEYOND);
        due.is("loosen(5, 21)", x.loosen(5, 21), Due.BEYOND);
    }

    /** One of the greatest number alone is fewer than two of lesser numbers. */
    private static void loosenFewest() {
        ParcelBall x = Due.wound(0, Due.PIECE, Due.PIECE);
        x.wind(Due.PIECE, 11);
        x.change(0, 2, 20);
        x.change(1, 2, 20);
        x.change(2, 2, 45);
        // FELT: 20 - 6, 20 - 4 down; 45 up; a day goes up by 45 over 30 and 10.
        due.is("up by itself", x.where(1), 6);
        due.is("loosen(4, 1): the third alone", x.loosen(4, 1), 4);
        x.change(2, 2, 35);
        // FELT: 20 - 5, 20 - 3 down; 35 up: 32 and 10 hold it; 17 or 15 do not.
        due.is("loosen(5, 1)", x.loosen(5, 1), 0);
        due.is("loosen(6, 1): of two the least", x.loosen(6, 1), 1);
        x.drag(19);
        // 35 over 17 or 15: 18 (held), 20 (not).
        due.is("loosen(6, 1) against 19", x.loosen(6, 1), 2);
        x.drag(34);
        due.is("loosen(6, 1) against 34: two", x.loosen(6, 1), 3);
        x.drag(35);
        due.is("loosen(6, 1) against 35", x.loosen(6, 1), Due.NONE);
        x.drag(0);
        // loosened pieces still lie about the others.
        x.change(2, 2, 99);
        due.is("DEEP still counts", x.loosen(4, 1), 4);
        x.drag(17);
        due.is("20 - 11 and 20 - 9 against 17", x.loosen(4, 1), 4);
        x.drag(20);
        due.is("20 - 11 and 20 - 9 against 20", x.loosen(4, 1), Due.NONE);
    }

    private static void fits() {
        ParcelBall x = Due.wound(0, Due.PIECE);
        x.change(0, 2, 50);
        Due.sheet(x, 0, 8, 5, 6, 7);
        due.is("fits 5 6 7", x.fits(0, 0), 0xf80);
        Due.sheet(x, 0, 8, 5, 6, 7, 7);
        due.is("fits 5 6 7 7", x.fits(0, 0), 1 << 7);
        Due.sheet(x, 0, 16, -1, -1, 3);
        due.is("fits any any 3", x.fits(0, 0), 0x00f);
        Due.sheet(x, 1, 32, -1, 4);
        due.is("fits any 4", x.fits(1, 0), 0x01f);
        Due.sheet(x, 1, 32, 4);
        due.is("fits 4", x.fits(1, 0), 0);
        Due.sheet(x, 2, 32, 5);
        due.is("fits 5", x.fits(2, 0), 4095);
        Due.sheet(x, 3, 8);
        due.is("fits of no numbers", x.fits(3, 0), 4095);
        Due.sheet(x, 3, 8, 255);
        due.is("255 of 8 bits is any", x.fits(3, 0), 4095);
        Due.sheet(x, 3, 16, 255);
        due.is("255 of 16 bits is no place", x.fits(3, 0), 0);
        Due.sheet(x, 3, 16, -2);
        due.is("-2 is no place", x.fits(3, 0), 0);
        due.is("it draws where it did", x.of(0, 1), 0);
        due.is("the ball stays", x.now(1), 5);
    }

    private static void kinds() {
        ParcelBall x = Due.wound(7, Due.PIECE);
        Due.sheet(x, 0, 8, 5, 6);
        due.is("kinds 5 6: thrice 10, or twice", x.kinds(0, 0), 1 << 2 | 1 << 3 | 1 << 4 | 1 << 6);
        Due.sheet(x, 0, 8, 5, 5);
        due.is("kinds 5 5", x.kinds(0, 0), 1 << 0 | 1 << 1 | 1 << 5);
        Due.sheet(x, 0, 8, 5, 6, 7);
        due.is("kinds 5 6 7: 10 and 5, or twice 11", x.kinds(0, 0), 1 << 4 | 1 << 6);
        Due.sheet(x, 0, 8, 5, 5, 6);
        due.is("kinds 5 5 6: 10 and 1", x.kinds(0, 0), 1 << 1);
        Due.sheet(x, 0, 8, -1, -1, -1);
        due.is("kinds any", x.kinds(0, 0), 127);
        Due.sheet(x, 0, 8);
        due.is("kinds of no numbers", x.kinds(0, 0), 127);
        due.is("KIND stays", x.of(0, 0), 0);
    }

    private static void waysFindings() {
        ParcelBall x = Due.wound(5, Due.PIECE);
        x.sheet(1, 8, 2);
        due.is("fits(-1, 0)", x.fits(-1, 0), Due.BEYOND);
        due.is("fits(4, 0)", x.fits(4, 0), Due.BEYOND);
        due.is("fits(0, 0) MISSING", x.fits(0, 0), Due.MISSING);
        due.is("fits(0, 9) MISSING first", x.fits(0, 9), Due.MISSING);
        due.is("fits(1, 1)", x.fits(1, 1), Due.BEYOND);
        due.is("fits(1, -1)", x.fits(1, -1), Due.BEYOND);
        due.is("kinds(-1, 0)", x.kinds(-1, 0), Due.BEYOND);
        due.is("kinds(4, 0)", x.kinds(4, 0), Due.BEYOND);
        due.is("kinds(3, 0) MISSING", x.kinds(3, 0), Due.MISSING);
        due.is("kinds(3, -1) MISSING first", x.kinds(3, -1), Due.MISSING);
        due.is("kinds(1, 1)", x.kinds(1, 1), Due.BEYOND);
        due.is("kinds(1, -1)", x.kinds(1, -1), Due.BEYOND);
    }
}
