import java.math.BigInteger;

/** The edges that promises 25 to 27 and the terms of draws name, each by itself. */
public final class ParcelsEdgesTest {
    private static final Due due = new Due("ParcelsEdgesTest");
    private static final Edges edges = new Edges(due);
    private static final int LAST_DAY = 99999;
    private static final int[] SEEDS = {Integer.MIN_VALUE, Integer.MIN_VALUE + 1, -1000007, -1000001, -256, -2, -1, 0, 1,
        2, 255, 256, 8388607, 8388608, 12345, 1103515245, Integer.MAX_VALUE - 1, Integer.MAX_VALUE};

    public static void main(String[] args) {
        parcelsBounds();
        parcelsAreSoMany();
        parcelsToTheLastDay();
        drawsWrap();
        drawsOfEachPieceAndPlace();
        oddsBounds();
        oddsInLowestTerms();
        seedIsAnyInt();
        due.end();
    }

    // ---- promise 25

    private static void parcelsBounds() {
        edges.bounds("parcels(#) of none", Worlds::none, 1, 20, (x, v) -> x.parcels(v));
        edges.bounds("parcels(#) of some", Worlds::some, 1, 20, (x, v) -> x.parcels(v));
        edges.bounds("parcels(#) of full", Worlds::full, 1, 20, (x, v) -> x.parcels(v));
    }

    private static void parcelsAreSoMany() {
        for (int n = 1; n <= 20; n++) {
            ParcelBall at = Worlds.full();
            ParcelBall one = Worlds.full();
            int place = 0;
            for (int i = 0; i < n; i++) {
                place = one.parcels(1);
            }
            due.is("parcels(" + n + ")", at.parcels(n), place);
            due.is("DAY behind parcels(" + n + ")", at.count(0), 31 + n);
            due.is("z behind parcels(" + n + ")", at.count(6), drawn(31, 2 * n));
            edges.alike("parcels(" + n + ") and as many one by one", at, one);
            ParcelBall none = new ParcelBall();
            due.is("parcels(" + n + ") of none", none.parcels(n), 5);
            due.is("DAY of none", none.count(0), n);
            due.is("z of none", none.count(6), drawn(1, 2 * n));
        }
    }

    /** Takes more calls than an object is used for: STATE can't be seen with fewer. */
    private static void parcelsToTheLastDay() {
        int[] days = {1, 2, 19, 20};
        for (int n : days) {
            ParcelBall x = Worlds.atDay(LAST_DAY - n);
            due.is("parcels(" + n + ") to 99999", x.parcels(n), 5);
            due.is("DAY 99999", x.count(0), LAST_DAY);
            String call = "parcels(" + n + ") to 100000";
            edges.refused(call, () -> Worlds.atDay(LAST_DAY + 1 - n), y -> y.parcels(n), Due.STATE);
        }
        Edges.Made last = () -> Worlds.atDay(LAST_DAY);
        edges.beside("parcels(#) from 99999, BEYOND before STATE", last, 1, 20, (x, v) -> x.parcels(v));
    }

    // ---- terms: DRAWS

    /** z behind so many draws, by numbers that have no end. */
    private static int drawn(int z, int times) {
        BigInteger drawn = BigInteger.valueOf(z);
        for (int i = 0; i < times; i++) {
            drawn = drawn.multiply(BigInteger.valueOf(1103515245)).add(BigInteger.valueOf(12345));
        }
        return drawn.intValue();
    }

    /** What a draw gives is never below 0, whatever the sign of z. */
    private static int given(int z) {
        return (int) (Integer.toUnsignedLong(z) / 256);
    }

    private static void drawsWrap() {
        for (int z : SEEDS) {
            ParcelBall x = new ParcelBall();
            x.seed(z);
            for (int n = 1; n <= 20; n++) {
                x.parcels(n);
                due.is("z from " + z, x.count(6), drawn(z, n * (n + 1)));
            }
        }
    }

    /** Of eight pieces one draws to another place, of fewer perhaps none; so on the same DAY it pulls there. */
    private static void drawsOfEachPieceAndPlace() {
        int seen = 0;
        for (int i = 0; i < 400; i++) {
            int z = i < SEEDS.length ? SEEDS[i] : i * 739391;
            int piece = given(drawn(z, 1)) % 8;
            int place = given(drawn(z, 2)) % 12;
            seen |= 1 << piece | 1 << 8 + place;
            for (int pieces = 0; pieces <= 8; pieces++) {
                ParcelBall x = Due.wound(5, new int[pieces]);
                x.drag(0);
                x.seed(z);
                boolean draws = piece < pieces;
                int at = draws ? 5 + Integer.signum(place - 5) : 5;
                due.is("parcels(1) of " + pieces + " from " + z, x.parcels(1), at);
                for (int p = 0; p < pieces; p++) {
                    due.is("PLACE of " + p + " from " + z, x.of(p, 1), p == piece ? place : 5);
                }
            }
        }
        due.is("each piece and each place was drawn", seen, (1 << 20) - 1);
    }

    // ---- promise 26

    private static void oddsBounds() {
        for (int what = 0; what <= 1; what++) {
            int w = what;
            edges.bounds("odds(#, " + w + ") of none", Worlds::none, 0, 17, (x, v) -> x.odds(v, w));
            edges.bounds("odds(#, " + w + ") of full", Worlds::full, 0, 17, (x, v) -> x.odds(v, w));
        }
        edges.bounds("odds(0, #)", Worlds::none, 0, 1, (x, v) -> x.odds(0, v));
        edges.bounds("odds(17, #)", Worlds::some, 0, 1, (x, v) -> x.odds(17, v));
        edges.changesNothing("odds(17, 0)", Worlds::some, x -> x.odds(17, 0));
        edges.changesNothing("odds(17, 1)", Worlds::full, x -> x.odds(17, 1));
    }

    private static void oddsInLowestTerms() {
        for (int many = 0; many <= 8; many++) {
            ParcelBall x = new ParcelBall();
            for (int i = 0; i < many; i++) {
                x.wind(Due.PIECE, 11 - i);
            }
            for (int n = 0; n <= 17; n++) {
                BigInteger above = BigInteger.valueOf(many).pow(n);
                BigInteger below = BigInteger.valueOf(12).pow(n);
                BigInteger common = above.gcd(below);
                String of = "(" + n + ") of " + many;
                due.is("above" + of, x.odds(n, 0), above.divide(common).longValueExact());
                due.is("below" + of, x.odds(n, 1), below.divide(common).longValueExact());
            }
        }
        edges.tells("the least that can be", () -> Worlds.longest(0), x -> x.odds(17, 1), 2218611106740436992L);
        edges.tells("one above it", () -> Worlds.longest(0), x -> x.odds(17, 0), 1);
        edges.tells("none, once", Worlds::none, x -> x.odds(1, 0), 0);
        edges.tells("none, once: below", Worlds::none, x -> x.odds(1, 1), 1);
        edges.tells("none, seventeen times: below", Worlds::none, x -> x.odds(17, 1), 1);
        edges.tells("none, no time", Worlds::none, x -> x.odds(0, 0), 1);
        edges.tells("none, no time: below", Worlds::none, x -> x.odds(0, 1), 1);
    }

    // ---- promise 27

    /** What it was may look like a finding, but it is none. */
    private static void seedIsAnyInt() {
        ParcelBall x = new ParcelBall();
        int was = 1;
        for (int z : SEEDS) {
            due.is("seed(" + z + ")", x.seed(z), was);
            due.is("count(6) of " + z, x.count(6), z);
            was = z;
        }
        due.is("no finding was told", x.status(-1), 0);
    }
}
