/** The edges that promises 31 to 37 and the terms of spots and sheets name, each by itself. */
public final class SpotsSheetsEdgesTest {
    private static final Due due = new Due("SpotsSheetsEdgesTest");
    private static final Edges edges = new Edges(due);
    private static final int MIN = Integer.MIN_VALUE;
    private static final int MAX = Integer.MAX_VALUE;
    private static final int[] BITS = {8, 16, 32};

    public static void main(String[] args) {
        holdBounds();
        holdEachSpot();
        asBounds();
        asInItsOrder();
        sheetBounds();
        sheetSize();
        sheetIsAllZero();
        sheetMissing();
        writeBounds();
        writeWraps();
        writeOneAlone();
        copyBounds();
        copyInItsOrder();
        copyEachWay();
        copyAlongItself();
        copyForty();
        copyWraps();
        loadBounds();
        loadEndsAtTheFirst();
        loadOfManyAndFew();
        judgeBounds();
        judgeEachPlace();
        judgeOfManyAndFew();
        due.end();
    }

    // ---- promise 31

    private static void holdBounds() {
        edges.bounds("hold(#, 1)", Worlds::some, 0, 9, (x, v) -> x.hold(v, 1));
        edges.bounds("hold(#, -1) of none", Worlds::none, 0, 9, (x, v) -> x.hold(v, -1));
        edges.bounds("hold(9, #) of none", Worlds::none, -1, -1, (x, v) -> x.hold(9, v));
        edges.bounds("hold(9, #) of some", Worlds::some, -1, 2, (x, v) -> x.hold(9, v));
        edges.bounds("hold(0, #) of full", Worlds::full, -1, 7, (x, v) -> x.hold(0, v));
    }

    private static void holdEachSpot() {
        ParcelBall x = Worlds.longest(5);
        for (int spot = 0; spot < 10; spot++) {
            due.is("hold the innermost", x.hold(spot, 0), 1);
            due.is("hold the outermost", x.hold(spot, 7), 1);
            due.is("it holds that one", x.as(spot, 0), 7);
            due.is("so many hold", x.count(7), spot + 1);
        }
        due.is("hold again what it holds", x.hold(9, 7), 1);
        for (int spot = 0; spot < 10; spot++) {
            due.is("hold nothing", x.hold(spot, -1), 1);
            due.is("hold nothing again", x.hold(spot, -1), 1);
            due.is("it holds nothing", x.as(spot, 0), Due.MISSING);
            due.is("so many hold", x.count(7), 9 - spot);
        }
    }

    // ---- promise 32

    private static void asBounds() {
        edges.bounds("as(#, 0)", Worlds::full, 0, 9, (x, v) -> x.as(v, 0));
        edges.bounds("as(0, #)", Worlds::full, 0, 6, (x, v) -> x.as(0, v));
        edges.beside("as(#, 0) of none", Worlds::none, 0, 9, (x, v) -> x.as(v, 0));
    }

    private static void asInItsOrder() {
        edges.beside("as(#, 0) of some", Worlds::some, 0, 9, (x, v) -> x.as(v, 0));
        edges.beside("as(1, #), BEYOND before MISSING", Worlds::some, 0, 6, (x, v) -> x.as(1, v));
        boolean[][] under = {
            {true, false, false, false, false, false, false},
            {true, true, false, false, false, false, false},
            {true, false, true, false, false, false, false},
            {true, false, true, true, false, false, false},
            {true, false, true, true, true, false, false},
            {true, false, false, false, false, true, false},
            {true, true, false, false, false, false, true}};
        for (int kind = 0; kind < 7; kind++) {
            for (int wanted = 0; wanted < 7; wanted++) {
                int k = kind;
                int w = wanted;
                String call = "as one of " + w + " a " + k;
                if (under[k][w]) {
                    edges.tells(call, () -> holding(k), x -> x.as(9, w), 1);
                } else {
                    edges.refused(call, () -> holding(k), x -> x.as(9, w), Due.KIND);
                }
                edges.refused("as one of " + w + " nothing", () -> holding(k), x -> x.as(8, w), Due.MISSING);
            }
        }
    }

    private static ParcelBall holding(int kind) {
        ParcelBall x = Due.wound(5, Due.PIECE, kind);
        x.hold(9, 1);
        return x;
    }

    // ---- promise 33

    private static void sheetBounds() {
        Edges.Made[] worlds = {Worlds::none, Worlds::some, Worlds::full};
        int[] others = {MIN, -32, -16, -8, -1, 1, 7, 9, 15, 17, 24, 31, 33, 40, 64, 256, 264, MAX};
        for (Edges.Made made : worlds) {
            edges.bounds("sheet(#, 8, 3)", made, 0, 3, (x, v) -> x.sheet(v, 8, 3));
            edges.beside("sheet(#, 0, 3)", made, 0, 3, (x, v) -> x.sheet(v, 0, 3));
            edges.beside("sheet(#, 8, -1), BEYOND before SIZE", made, 0, 3, (x, v) -> x.sheet(v, 8, -1));
            for (int bits : others) {
                edges.refused("sheet(0, " + bits + ", 3)", made, x -> x.sheet(0, bits, 3), Due.BEYOND);
                edges.refused("sheet(0, " + bits + ", -1)", made, x -> x.sheet(0, bits, -1), Due.BEYOND);
                edges.refused("sheet(0, " + bits + ", 41)", made, x -> x.sheet(0, bits, 41), Due.BEYOND);
            }
        }
    }

    private static void sheetSize() {
        int[] below = {MIN, -41, -2, -1};
        int[] above = {41, 42, 296, MAX};
        for (int bits = 0; bits <= 32; bits = bits == 0 ? 8 : 2 * bits) {
            int b = bits;
            for (int n : below) {
                edges.refused("sheet(1, " + b + ", " + n + ")", Worlds::some, x -> x.sheet(1, b, n), Due.SIZE);
            }
            for (int n : above) {
                edges.refused("sheet(1, " + b + ", " + n + ")", Worlds::some, x -> x.sheet(1, b, n), Due.BEYOND);
            }
            for (int n = 0; n <= 40; n++) {
                ParcelBall x = new ParcelBall();
                due.is("sheet(3, " + b + ", " + n + ")", x.sheet(3, b, n), b == 0 ? 0 : n);
                due.is("its last", x.write(3, n - 1, 1), b == 0 ? Due.MISSING : n == 0 ? Due.BEYOND : 1);
                due.is("behind its last", x.write(3, n, 1), b == 0 ? Due.MISSING : Due.BEYOND);
            }
        }
    }

    /** A number of a sheet, as a length, or 0 if it is none; another sheet and a piece are needed for it. */
    private static int number(ParcelBall x, int s, int bits, int i) {
        int other = (s + 1) % 4;
        x.sheet(other, bits, 1);
        x.copy(s, i, other, 0, 1);
        return x.load(other) == 1 ? x.of(0, 2) : 0;
    }

    private static void sheetIsAllZero() {
        for (int bits : BITS) {
            for (int s = 0; s < 4; s++) {
                ParcelBall x = Due.wound(0, Due.PIECE);
                x.sheet(s, bits, 40);
                for (int i = 0; i < 40; i++) {
                    x.write(s, i, 40 - i);
                }
                for (int i = 0; i < 40; i++) {
                    due.is("number " + i + " of sheet " + s, number(x, s, bits, i), 40 - i);
                }
                due.is("laid anew, shorter", x.sheet(s, bits, 3), 3);
                due.is("laid anew, as long", x.sheet(s, bits, 40), 40);
                for (int i = 0; i < 40; i++) {
                    due.is("number " + i + " of sheet " + s + " anew", number(x, s, bits, i), 0);
                    x.copy(s, i, (s + 1) % 4, 0, 1);
                    due.is("it is 0", x.judge((s + 1) % 4), 0);
                }
            }
        }
    }

    private static void sheetMissing() {
        for (int s = 0; s < 4; s++) {
            for (int n = 0; n <= 40; n += 20) {
                ParcelBall x = Due.wound(0, Due.PIECE);
                due.is("MISSING before", x.judge(s), Due.MISSING);
                due.is("sheet(" + s + ", 0, " + n + ") of MISSING", x.sheet(s, 0, n), 0);
                due.is("MISSING still", x.judge(s), Due.MISSING);
                due.is("of no numbers it is there", x.sheet(s, 8, 0), 0);
                due.is("so it is", x.judge(s), 0);
                due.is("sheet(" + s + ", 0, " + n + ")", x.sheet(s, 0, n), 0);
                due.is("MISSING again", x.judge(s), Due.MISSING);
            }
        }
    }

    // ---- promise 34

    private static void writeBounds() {
        edges.bounds("write(#, 0, 5)", Worlds::full, 0, 3, (x, v) -> x.write(v, 0, 5));
        edges.bounds("write(0, #, 5) of some", Worlds::some, 0, 3, (x, v) -> x.write(0, v, 5));
        edges.bounds("write(0, #, 5) of full", Worlds::full, 0, 39, (x, v) -> x.write(0, v, 5));
        edges.beside("write(1, #, 5) of no numbers", () -> sheetOf(0), 0, -1, (x, v) -> x.write(1, v, 5));
        int[] places = {MIN, -1, 0, 1, 40, MAX};
        for (int i : places) {
            edges.refused("write(3, " + i + ", 5)", Worlds::some, x -> x.write(3, i, 5), Due.MISSING);
            edges.beside("write(#, " + i + ", 5)", Worlds::some, 0, 3, (x, v) -> x.write(v, i, 5));
        }
    }

    private static ParcelBall sheetOf(int n) {
        ParcelBall x = new ParcelBall();
        x.sheet(1, 8, n);
        return x;
    }

    /** What comes to stand there: a length, 0 or -1, by the lowest bits with their sign. */
    private static void writeWraps() {
        int[] v = {0, 1, 99, -1, 127, 128, 255, 256, 257, 355, 511, 512, 32767, 32768, 65535, 65536, 65537, 65635,
            131071, -255, -256, -65535, -65536, 0x12340000, 0x12345600, 0x12340063, 0x1234ffff, MAX, MIN, MIN + 1};
        for (int bits : BITS) {
            for (int value : v) {
                long told = value;
                if (bits < 32) {
                    long whole = 1L << bits;
                    long rest = Math.floorMod((long) value, whole);
                    told = rest >= whole / 2 ? rest - whole : rest;
                }
                ParcelBall x = Due.wound(0, Due.PIECE);
                x.ball(1);
                Due.sheet(x, 2, bits, value);
                String call = value + " of " + bits + " bits";
                due.is("judge " + call, x.judge(2), told == 0 ? 0 : 1);
                due.is("fits " + call, x.fits(2, 0), told == -1 || told == 1 ? 0xfff : 0);
                boolean isLength = told >= 1 && told <= 99;
                due.is("load " + call, x.load(2), isLength ? 1 : 0);
                due.is("LONG by " + call, x.of(0, 2), isLength ? told : 10);
            }
        }
    }

    private static void writeOneAlone() {
        for (int i = 0; i < 40; i++) {
            ParcelBall x = Worlds.full();
            due.is("write(0, " + i + ", 1)", x.write(0, i, 1), 1);
            due.is("write(0, " + i + ", 99)", x.write(0, i, 99), 1);
            due.is("and as it was", x.write(0, i, 99 - i), 1);
            edges.alike("write() to " + i + " and back", x, Worlds.full());
        }
    }

    // ---- promise 35

    private static void copyBounds() {
        edges.bounds("copy(#, 0, 0, 0, 0)", () -> eights(5), 0, 3, (x, v) -> x.copy(v, 0, 0, 0, 0));
        edges.bounds("copy(0, 0, #, 0, 0)", () -> eights(5), 0, 3, (x, v) -> x.copy(0, 0, v, 0, 0));
        edges.bounds("copy(0, #, 1, 0, 1)", Worlds::full, 0, 39, (x, v) -> x.copy(0, v, 1, 0, 1));
        edges.bounds("copy(1, 0, 0, #, 1)", Worlds::full, 0, 39, (x, v) -> x.copy(1, 0, 0, v, 1));
        edges.bounds("copy(0, 0, 0, 0, #)", Worlds::full, 0, 40, (x, v) -> x.copy(0, 0, 0, 0, v));
        edges.bounds("copy(0, 0, 1, 0, #)", Worlds::full, 0, 3, (x, v) -> x.copy(0, 0, 1, 0, v));
        edges.bounds("copy(1, 0, 0, 0, #)", Worlds::full, 0, 3, (x, v) -> x.copy(1, 0, 0, 0, v));
        edges.bounds("copy(0, 3, 1, 0, #)", () -> eights(5), 0, 2, (x, v) -> x.copy(0, 3, 1, 0, v));
        edges.bounds("copy(0, 0, 1, 3, #)", () -> eights(5), 0, 2, (x, v) -> x.copy(0, 0, 1, 3, v));
        edges.bounds("copy(0, 5, 1, 5, #)", () -> eights(5), 0, 0, (x, v) -> x.copy(0, 5, 1, 5, v));
        edges.bounds("copy(0, #, 1, 0, 0)", () -> eights(0), 0, 0, (x, v) -> x.copy(0, v, 1, 0, 0));
        edges.beside("copy(0, 0, 1, 0, #) of no numbers", () -> eights(0), 0, 0, (x, v) -> x.copy(0, 0, 1, 0, v));
    }

    /** Four sheets of 8 bits, each of so many numbers that are its own. */
    private static ParcelBall eights(int n) {
        ParcelBall x = Due.wound(5, Due.PIECE);
        for (int s = 0; s < 4; s++) {
            x.sheet(s, 8, n);
            for (int i = 0; i < Math.min(n, 5); i++) {
                x.write(s, i, 10 * s + i + 1);
            }
        }
        return x;
    }

    /** 0 of 8 bits, 1 of 16, 2 of 32, 3 MISSING: no such sheet, then MISSING, then KIND, then the rest. */
    private static void copyInItsOrder() {
        int[] from = {0, -1, 40, MIN, MAX};
        for (int f : from) {
            edges.beside("copy(#, " + f + ", 3, ..)", Worlds::some, 0, 3, (x, v) -> x.copy(v, f, 3, 0, -1));
            edges.beside("copy(3, " + f + ", #, ..)", Worlds::some, 0, 3, (x, v) -> x.copy(3, f, v, 0, -1));
            edges.refused("copy from MISSING", Worlds::some, x -> x.copy(3, f, 0, 0, 1), Due.MISSING);
            edges.refused("copy to MISSING", Worlds::some, x -> x.copy(0, f, 3, 0, 1), Due.MISSING);
            edges.refused("copy MISSING along itself", Worlds::some, x -> x.copy(3, f, 3, 0, 0), Due.MISSING);
            for (int s = 0; s < 3; s++) {
                for (int t = 0; t < 3; t++) {
                    int one = s;
                    int other = t;
                    String call = "copy(" + s + ", " + f + ", " + t + ", 0, -1)";
                    int finding = s == t ? Due.BEYOND : Due.KIND;
                    edges.refused(call, Worlds::some, x -> x.copy(one, f, other, 0, -1), finding);
                }
            }
        }
    }

    /** From each sheet to each other one, from 3 on to 0 on. */
    private static void copyEachWay() {
        for (int s = 0; s < 4; s++) {
            for (int t = 0; t < 4; t++) {
                ParcelBall x = eights(5);
                due.is("copy(" + s + ", 3, " + t + ", 0, 2)", x.copy(s, 3, t, 0, 2), 2);
                ParcelBall y = eights(5);
                y.write(t, 0, 10 * s + 4);
                y.write(t, 1, 10 * s + 5);
                edges.alike("copy from " + s + " to " + t, x, y);
            }
        }
    }

    /** All that can be asked of a sheet of five, beside its ends, too. */
    private static void copyAlongItself() {
        for (int from = -1; from <= 6; from++) {
            for (int to = -1; to <= 6; to++) {
                for (int n = -1; n <= 6; n++) {
                    boolean isThere = from >= 0 && to >= 0 && n >= 0 && from + n <= 5 && to + n <= 5;
                    String call = "copy(2, " + from + ", 2, " + to + ", " + n + ")";
                    ParcelBall x = eights(5);
                    due.is(call, x.copy(2, from, 2, to, n), isThere ? n : Due.BEYOND);
                    int[] want = {21, 22, 23, 24, 25};
                    for (int i = 0; isThere && i < n; i++) {
                        want[to + i] = 21 + from + i;
                    }
                    for (int i = 0; i < 5; i++) {
                        due.is("number " + i + " behind " + call, number(x, 2, 8, i), want[i]);
                    }
                }
            }
        }
    }

    private static void copyForty() {
        for (int bits : BITS) {
            ParcelBall x = Due.wound(5, Due.PIECE);
            x.sheet(0, bits, 40);
            x.sheet(1, bits, 40);
            for (int i = 0; i < 40; i++) {
                x.write(0, i, 99 - i);
            }
            due.is("copy of 40", x.copy(0, 0, 1, 0, 40), 40);
            due.is("copy of 39 along itself", x.copy(1, 0, 1, 1, 39), 39);
            for (int i = 0; i < 40; i++) {
                due.is("number " + i, number(x, 1, bits, i), 99 - Math.max(0, i - 1));
            }
            due.is("copy of the last", x.copy(0, 39, 1, 39, 1), 1);
            due.is("number 39", number(x, 1, bits, 39), 60);
        }
    }

    /** Sums of these are below 0 as ints, or small again. */
    private static void copyWraps() {
        int[] v = {MIN, MIN + 1, -40, 0, 1, 5, MAX - 1, MAX};
        for (int from : v) {
            for (int to : v) {
                for (int n : v) {
                    long endFrom = (long) from + n;
                    long endTo = (long) to + n;
                    if (from < 0 || to < 0 || n < 0 || endFrom > 5 || endTo > 5) {
                        String call = "copy(0, " + from + ", 1, " + to + ", " + n + ")";
                        edges.refused(call, () -> eights(5), x -> x.copy(0, from, 1, to, n), Due.BEYOND);
                    }
                }
            }
        }
    }

    // ---- promise 36

    private static void loadBounds() {
        edges.bounds("load(#)", Worlds::full, 0, 3, (x, v) -> x.load(v));
        edges.beside("load(#) of some", Worlds::some, 0, 3, (x, v) -> x.load(v));
        edges.refused("load(3) of MISSING", Worlds::some, x -> x.load(3), Due.MISSING);
        for (int s = 0; s < 4; s++) {
            int sheet = s;
            edges.refused("load(" + s + ") of none", Worlds::none, x -> x.load(sheet), Due.MISSING);
        }
    }

    /** What came stays, the one at which it ends and all behind it do not come. */
    private static void loadEndsAtTheFirst() {
        int[] ends = {MIN, -128, -1, 0, 100, 127, 1000, MAX};
        for (int at = 0; at < 8; at++) {
            for (int end : ends) {
                ParcelBall x = Due.wound(5, new int[8]);
                int[] numbers = {1, 99, 2, 98, 3, 97, 4, 96};
                int[] written = numbers.clone();
                written[at] = end;
                Due.sheet(x, 3, 32, written);
                due.is("load to " + at + " at " + end, x.load(3), at);
                for (int piece = 0; piece < 8; piece++) {
                    due.is("LONG of " + piece, x.of(piece, 2), piece < at ? numbers[piece] : 10);
                }
                due.is("no finding", x.status(-1), 0);
            }
        }
    }

    private static void loadOfManyAndFew() {
        for (int pieces = 0; pieces <= 8; pieces++) {
            for (int n = 0; n <= 40; n++) {
                ParcelBall x = Due.wound(5, new int[pieces]);
                x.sheet(0, 8, n);
                for (int i = 0; i < n; i++) {
                    x.write(0, i, 50 + i);
                }
                due.is("load of " + n + " to " + pieces, x.load(0), Math.min(n, pieces));
                for (int piece = 0; piece < pieces; piece++) {
                    due.is("LONG of " + piece, x.of(piece, 2), piece < n ? 50 + piece : 10);
                }
            }
        }
    }

    // ---- promise 37

    private static void judgeBounds() {
        edges.bounds("judge(#)", Worlds::full, 0, 3, (x, v) -> x.judge(v));
        edges.beside("judge(#) of some", Worlds::some, 0, 3, (x, v) -> x.judge(v));
        edges.refused("judge(3) of MISSING", Worlds::some, x -> x.judge(3), Due.MISSING);
        edges.changesNothing("judge(0)", Worlds::some, x -> x.judge(0));
        for (int s = 0; s < 4; s++) {
            int sheet = s;
            edges.refused("judge(" + s + ") of none", Worlds::none, x -> x.judge(sheet), Due.MISSING);
        }
    }

    private static void judgeEachPlace() {
        for (int place = 0; place < 12; place++) {
            for (int v = -2; v <= 13; v++) {
                ParcelBall x = Due.wound(place, Due.PIECE);
                Due.sheet(x, 1, 16, v);
                due.is("judge " + v + " to " + place, x.judge(1), v == place ? 0 : 1);
            }
        }
        for (int at = 0; at < 8; at++) {
            ParcelBall x = Due.wound(5, new int[8]);
            int[] numbers = {5, 5, 5, 5, 5, 5, 5, 5};
            Due.sheet(x, 2, 8, numbers);
            due.is("all so", x.judge(2), 0);
            x.change(at, 1, 6);
            due.is("not the one at " + at, x.judge(2), 1 + at);
            x.change(7, 1, 4);
            due.is("the first that isn't so", x.judge(2), 1 + at);
        }
    }

    /** A number behind those that there are pieces for isn't so; a piece behind the numbers doesn't matter. */
    private static void judgeOfManyAndFew() {
        for (int pieces = 0; pieces <= 8; pieces++) {
            for (int n = 0; n <= 40; n++) {
                ParcelBall x = Due.wound(0, new int[pieces]);
                x.sheet(0, 8, n);
                due.is("judge " + n + " of " + pieces, x.judge(0), n <= pieces ? 0 : 1 + pieces);
                due.is("no finding", x.status(-1), 0);
            }
        }
    }
}
