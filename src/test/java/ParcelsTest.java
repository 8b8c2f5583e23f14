/** Promises 25 to 27: parcels, odds, seed. */
public final class ParcelsTest {
    private static final Due due = new Due("ParcelsTest");

    public static void main(String[] args) {
        parcels();
        parcelsOfOnePiece();
        odds();
        seed();
        due.end();
    }

    private static void parcels() {
        ParcelBall x = new ParcelBall();
        due.is("parcels(0)", x.parcels(0), Due.BEYOND);
        due.is("parcels(21)", x.parcels(21), Due.BEYOND);
        due.is("parcels(-1)", x.parcels(-1), Due.BEYOND);
        due.is("no draw yet", x.count(6), 1);
        due.is("parcels(1) of none", x.parcels(1), 5);
        due.is("two draws all the same", x.count(6), drawn(1, 2));
        due.is("a day", x.now(0), 1);
        due.is("parcels(20)", x.parcels(20), 5);
        due.is("forty draws more", x.count(6), drawn(1, 42));
        due.is("twenty days more", x.now(0), 21);
    }

    private static int drawn(int z, int times) {
        int drawn = z;
        for (int i = 0; i < times; i++) {
            drawn = drawn * 1103515245 + 12345;
        }
        return drawn;
    }

    /** From seeds the first draw tells the piece, the second the place, before the day. */
    private static void parcelsOfOnePiece() {
        for (int z = -40; z < 40; z++) {
            ParcelBall x = Due.wound(5, Due.PIECE, Due.PIECE, Due.PIECE, Due.PIECE, Due.PIECE);
            for (int piece = 0; piece < 5; piece++) {
                x.change(piece, 2, 60);
            }
            int seed = z * 1234567891;
            x.seed(seed);
            int piece = (drawn(seed, 1) >>> 8) % 8;
            int place = (drawn(seed, 2) >>> 8) % 12;
            int at = piece >= 5 || place == 5 ? 5 : place > 5 ? 6 : 4;
            due.is("parcels(1) of seed " + seed, x.parcels(1), at);
            for (int i = 0; i < 5; i++) {
                due.is("place of " + i, x.of(i, 1), i == piece ? place : 5);
            }
        }
    }

    private static void odds() {
        ParcelBall x = new ParcelBall();
        due.is("odds(0, 0) of none", x.odds(0, 0), 1);
        due.is("odds(0, 1) of none", x.odds(0, 1), 1);
        due.is("odds(1, 0) of none", x.odds(1, 0), 0);
        due.is("odds(1, 1) of none", x.odds(1, 1), 1);
        int[] above = {0, 1, 1, 1, 1, 5, 1, 7, 2};
        int[] below = {1, 12, 6, 4, 3, 12, 2, 12, 3};
        for (int many = 1; many <= 8; many++) {
            x.wind(Due.PIECE, many + 2);
            due.is("above of " + many, x.odds(1, 0), above[many]);
            due.is("below of " + many, x.odds(1, 1), below[many]);
            due.is("above thrice of " + many, x.odds(3, 0), (long) above[many] * above[many] * above[many]);
            due.is("below thrice of " + many, x.odds(3, 1), (long) below[many] * below[many] * below[many]);
        }
        ParcelBall y = Due.wound(5, Due.PIECE, Due.ROW);
        due.is("one place told twice", y.odds(2, 1), 144);
        due.is("odds(17, 1)", y.odds(17, 1), 2218611106740436992L);
        due.is("odds(17, 0)", y.odds(17, 0), 1);
        for (int i = 0; i < 6; i++) {
            y.wind(Due.PIECE, i + 6);
        }
        due.is("odds(17, 0) of 7", y.odds(17, 0), 232630513987207L);
        due.is("odds(-1, 0)", y.odds(-1, 0), Due.BEYOND);
        due.is("odds(18, 0)", y.odds(18, 0), Due.BEYOND);
        due.is("odds(0, -1)", y.odds(0, -1), Due.BEYOND);
        due.is("odds(0, 2)", y.odds(0, 2), Due.BEYOND);
        due.is("no draws by odds", y.count(6), 1);
    }

    private static void seed() {
        ParcelBall x = new ParcelBall();
        due.is("seed(min)", x.seed(Integer.MIN_VALUE), 1);
        due.is("seed(-1000001)", x.seed(Due.BEYOND), Integer.MIN_VALUE);
        due.is("count(6)", x.count(6), Due.BEYOND);
        due.is("seed(7)", x.seed(7), Due.BEYOND);
        due.is("z is no finding", x.status(-1), 0);
    }
}
