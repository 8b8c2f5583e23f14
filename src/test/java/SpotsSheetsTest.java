/** Promises 31 to 37: hold, as, sheet, write, copy, load, judge. */
public final class SpotsSheetsTest {
    private static final Due due = new Due("SpotsSheetsTest");
    private static final int MAX = Integer.MAX_VALUE;

    public static void main(String[] args) {
        hold();
        as();
        sheet();
        write();
        copy();
        copyFindings();
        load();
        judge();
        due.end();
    }

    private static void hold() {
        ParcelBall x = Due.wound(5, Due.PIECE, Due.PIECE);
        due.is("hold(0, 1)", x.hold(0, 1), 1);
        due.is("hold(9, 1)", x.hold(9, 1), 1);
        due.is("two hold", x.count(7), 2);
        due.is("hold(0, 0)", x.hold(0, 0), 1);
        due.is("another", x.as(0, 0), 0);
        due.is("hold(0, -1)", x.hold(0, -1), 1);
        due.is("nothing", x.as(0, 0), Due.MISSING);
        due.is("hold(9, 2)", x.hold(9, 2), Due.BEYOND);
        due.is("hold(9, -2)", x.hold(9, -2), Due.BEYOND);
        due.is("hold(10, 0)", x.hold(10, 0), Due.BEYOND);
        due.is("hold(-1, 0)", x.hold(-1, 0), Due.BEYOND);
        due.is("it holds still", x.as(9, 0), 1);
        due.is("one holds", x.count(7), 1);
    }

    private static void as() {
        boolean[][] under = new boolean[7][7];
        int[][] ways = {{0}, {1, 0}, {2, 0}, {3, 2, 0}, {4, 3, 2, 0}, {5, 0}, {6, 1, 0}};
        for (int[] way : ways) {
            for (int above : way) {
                under[way[0]][above] = true;
            }
        }
        ParcelBall x = Due.wound(5, Due.PIECE, Due.PIECE);
        x.hold(3, 1);
        for (int kind = 0; kind < 7; kind++) {
            x.change(1, 0, kind);
            for (int as = 0; as < 7; as++) {
                due.is("a " + kind + " as " + as, x.as(3, as), under[kind][as] ? 1 : Due.KIND);
            }
        }
        due.is("as(3, 7)", x.as(3, 7), Due.BEYOND);
        due.is("as(3, -1)", x.as(3, -1), Due.BEYOND);
        due.is("as(10, 0)", x.as(10, 0), Due.BEYOND);
        due.is("as(-1, 0)", x.as(-1, 0), Due.BEYOND);
        due.is("as(4, 7) BEYOND first", x.as(4, 7), Due.BEYOND);
        due.is("as(4, 6) MISSING", x.as(4, 6), Due.MISSING);
    }

    private static void sheet() {
        ParcelBall x = new ParcelBall();
        due.is("sheet(0, 8, 40)", x.sheet(0, 8, 40), 40);
        due.is("sheet(1, 16, 0)", x.sheet(1, 16, 0), 0);
        due.is("sheet(3, 32, 1)", x.sheet(3, 32, 1), 1);
        due.is("a sheet of none is there", x.judge(1), 0);
        due.is("sheet(0, 0, 40)", x.sheet(0, 0, 40), 0);
        due.is("it is MISSING", x.judge(0), Due.MISSING);
        for (int bits : new int[] {-1, 1, 7, 9, 24, 64}) {
            due.is("sheet of " + bits + " bits", x.sheet(3, bits, 1), Due.BEYOND);
            due.is("sheet of " + bits + " bits, BEYOND first", x.sheet(3, bits, -1), Due.BEYOND);
        }
        for (int bits : new int[] {0, 8, 16, 32}) {
            due.is("SIZE with " + bits, x.sheet(3, bits, -1), Due.SIZE);
            due.is("41 with " + bits, x.sheet(3, bits, 41), Due.BEYOND);
        }
        due.is("sheet(4, 8, -1)", x.sheet(4, 8, -1), Due.BEYOND);
        due.is("sheet(-1, 8, 1)", x.sheet(-1, 8, 1), Due.BEYOND);
        due.is("it is there still", x.write(3, 0, 5), 1);
        due.is("laid anew", x.sheet(3, 32, 1), 1);
        x.wind(Due.PIECE, 0);
        due.is("all 0", x.judge(3), 0);
    }

    /** What stands in a sheet is told by judge(): pieces draw TO places alone. */
    private static void write() {
        int[] bits = {8, 16, 32};
        for (int b : bits) {
            ParcelBall x = Due.wound(3, Due.PIECE, Due.PIECE);
            x.sheet(2, b, 2);
            due.is("write", x.write(2, 1, 3), 1);
            due.is("the first is 0", x.judge(2), 1);
            x.write(2, 0, 3);
            due.is("both stand", x.judge(2), 0);
            x.write(2, 1, 256 + 3);
            due.is("259 of " + b, x.judge(2), b == 8 ? 0 : 2);
            x.write(2, 1, 65536 + 3);
            due.is("65539 of " + b, x.judge(2), b == 32 ? 2 : 0);
            x.sheet(1, b, 1);
            x.write(1, 0, 255);
            due.is("255 of " + b + " is -1", x.fits(1, 0), b == 8 ? 4095 : 0);
            x.write(1, 0, 65535);
            due.is("65535 of " + b + " is -1", x.fits(1, 0), b == 32 ? 0 : 4095);
            x.write(1, 0, -1);
            due.is("-1 of " + b + " is -1", x.fits(1, 0), 4095);
            due.is("write(2, 2, 0)", x.write(2, 2, 0), Due.BEYOND);
            due.is("write(2, -1, 0)", x.write(2, -1, 0), Due.BEYOND);
            due.is("write(0, -1, 0) MISSING first", x.write(0, -1, 0), Due.MISSING);
            due.is("write(4, 0, 0)", x.write(4, 0, 0), Due.BEYOND);
            due.is("write(-1, 0, 0)", x.write(-1, 0, 0), Due.BEYOND);
        }
        ParcelBall x = Due.wound(3, Due.PIECE);
        Due.sheet(x, 0, 8, 99);
        due.is("99 of 8 bits", x.load(0), 1);
        Due.sheet(x, 0, 8, 355);
        due.is("355 of 8 bits is 99", x.load(0), 1);
        Due.sheet(x, 0, 8, 128);
        due.is("128 of 8 bits is -128", x.load(0), 0);
    }

    private static void lengths(ParcelBall x, int... want) {
        for (int i = 0; i < want.length; i++) {
            due.is("LONG of " + i, x.of(i, 2), want[i]);
        }
    }

    private static void copy() {
        ParcelBall x = Due.wound(5, 0, 0, 0, 0, 0);
        Due.sheet(x, 0, 8, 1, 2, 3, 4, 5);
        due.is("copy on along itself", x.copy(0, 0, 0, 1, 4), 4);
        x.load(0);
        lengths(x, 1, 1, 2, 3, 4);
        Due.sheet(x, 0, 8, 1, 2, 3, 4, 5);
        due.is("copy back along itself", x.copy(0, 2, 0, 0, 3), 3);
        x.load(0);
        lengths(x, 3, 4, 5, 4, 5);
        Due.sheet(x, 1, 8, 11, 12, 13);
        due.is("copy to another", x.copy(1, 1, 0, 3, 2), 2);
        x.load(0);
        lengths(x, 3, 4, 5, 12, 13);
        due.is("copy none", x.copy(1, 3, 0, 5, 0), 0);
        due.is("copy all", x.copy(1, 0, 1, 0, 3), 3);
        due.is("the source stays", x.load(1), 3);
        lengths(x, 11, 12, 13, 12, 13);
    }

    private static void copyFindings() {
        ParcelBall x = Due.wound(5, Due.PIECE);
        x.sheet(0, 8, 4);
        x.sheet(1, 16, 4);
        x.sheet(2, 8, 2);
        due.is("copy(4, ..)", x.copy(4, 0, 3, 0, 0), Due.BEYOND);
        due.is("copy(3, .., 4, ..)", x.copy(3, 0, 4, 0, 0), Due.BEYOND);
        due.is("copy(-1, ..)", x.copy(-1, 0, 0, 0, 0), Due.BEYOND);
        due.is("copy(0, .., -1, ..)", x.copy(0, 0, -1, 0, 0), Due.BEYOND);
        due.is("copy from MISSING", x.copy(3, 0, 0, 0, -1), Due.MISSING);
        due.is("copy to MISSING", x.copy(0, 0, 3, 0, -1), Due.MISSING);
        due.is("copy of other bits", x.copy(0, 0, 1, 0, -1), Due.KIND);
        due.is("copy of other bits back", x.copy(1, 0, 0, 0, 1), Due.KIND);
        due.is("copy of -1", x.copy(0, 0, 2, 0, -1), Due.BEYOND);
        due.is("copy from -1", x.copy(0, -1, 2, 0, 1), Due.BEYOND);
        due.is("copy to -1", x.copy(0, 0, 2, -1, 1), Due.BEYOND);
        due.is("copy too many to", x.copy(0, 0, 2, 0, 3), Due.BEYOND);
        due.is("copy too many from", x.copy(2, 0, 0, 0, 3), Due.BEYOND);
        due.is("copy too far from", x.copy(0, 3, 2, 0, 2), Due.BEYOND);
        due.is("copy too far to", x.copy(0, 0, 2, 1, 2), Due.BEYOND);
        due.is("copy none from beyond", x.copy(0, 5, 2, 0, 0), Due.BEYOND);
        due.is("copy none to beyond", x.copy(0, 0, 2, 3, 0), Due.BEYOND);
        due.is("copy most from 1", x.copy(0, 1, 2, 0, MAX), Due.BEYOND);
        due.is("copy 1 from most", x.copy(0, MAX, 2, 0, 1), Due.BEYOND);
        due.is("copy most to most", x.copy(0, MAX, 2, MAX, MAX), Due.BEYOND);
    }

    private static void load() {
        ParcelBall x = Due.wound(5, Due.PIECE, Due.PIECE, Due.PIECE);
        Due.sheet(x, 0, 8, 1, 99, 50, 7);
        due.is("no piece for the fourth", x.load(0), 3);
        lengths(x, 1, 99, 50);
        Due.sheet(x, 0, 8, 5, 0, 6);
        due.is("0 ends it", x.load(0), 1);
        lengths(x, 5, 99, 50);
        Due.sheet(x, 0, 8, 6, 7, 100);
        due.is("100 ends it", x.load(0), 2);
        lengths(x, 6, 7, 50);
        Due.sheet(x, 0, 8, -1);
        due.is("-1 ends it", x.load(0), 0);
        Due.sheet(x, 0, 32, 9);
        due.is("shorter than the pieces", x.load(0), 1);
        lengths(x, 9, 7, 50);
        Due.sheet(x, 0, 32);
        due.is("of no numbers", x.load(0), 0);
        due.is("load(1)", x.load(1), Due.MISSING);
        due.is("load(4)", x.load(4), Due.BEYOND);
        due.is("load(-1)", x.load(-1), Due.BEYOND);
    }

    private static void judge() {
        ParcelBall x = new ParcelBall();
        x.wind(Due.PIECE, 0);
        x.wind(Due.PIECE, 11);
        Due.sheet(x, 0, 8, 0, 11);
        due.is("so", x.judge(0), 0);
        Due.sheet(x, 0, 8, 0);
        due.is("so of the first", x.judge(0), 0);
        Due.sheet(x, 0, 8, 0, 10);
        due.is("not the second", x.judge(0), 2);
        Due.sheet(x, 0, 8, 1, 10);
        due.is("not the first", x.judge(0), 1);
        Due.sheet(x, 0, 8, 0, 11, 0);
        due.is("no third piece", x.judge(0), 3);
        Due.sheet(x, 0, 8);
        due.is("of no numbers", x.judge(0), 0);
        Due.sheet(x, 0, 8, -1);
        due.is("-1 is no place here", x.judge(0), 1);
        due.is("judge(1)", x.judge(1), Due.MISSING);
        due.is("judge(4)", x.judge(4), Due.BEYOND);
        due.is("judge(-1)", x.judge(-1), Due.BEYOND);
    }
}
