/** Counts answers that are not as due; shared by the tests of the project. */
final class Due {
    static final int BEYOND = -1000001;
    static final int FULL = -1000002;
    static final int KIND = -1000003;
    static final int NONE = -1000004;
    static final int STATE = -1000005;
    static final int MISSING = -1000006;
    static final int SIZE = -1000007;

    static final int PIECE = 0;
    static final int TICKING = 1;
    static final int BIRTHDAY = 2;
    static final int ROW = 3;
    static final int LETTER = 4;
    static final int HERS = 5;
    static final int FUSE = 6;

    private final String test;
    private int asked = 0;
    private int wrong = 0;

    Due(String test) {
        this.test = test;
    }

    void is(String call, long got, long want) {
        asked++;
        if (got != want) {
            wrong++;
            System.out.println(test + ": " + call + " answered " + got + ", due is " + want);
        }
    }

    void holds(String what, boolean so) {
        is(what, so ? 1 : 0, 1);
    }

    void end() {
        System.out.println(test + ": " + asked + " answers, " + wrong + " not as due");
        if (wrong != 0 || asked == 0) {
            System.exit(1);
        }
    }

    /** A ball with one piece a kind told, all TO the place told, each with LONG 10. */
    static ParcelBall wound(int place, int... kinds) {
        ParcelBall x = new ParcelBall();
        for (int kind : kinds) {
            x.wind(kind, place);
        }
        return x;
    }

    /** Puts a text behind the tape, four bytes a call. */
    static void feed(ParcelBall x, String text) {
        for (int i = 0; i < text.length(); i += 4) {
            int n = Math.min(4, text.length() - i);
            int bytes = 0;
            for (int k = 0; k < n; k++) {
                bytes = bytes << 8 | text.charAt(i + k);
            }
            x.feed(bytes, n);
        }
    }

    static int read(ParcelBall x, String text) {
        feed(x, text);
        return x.text();
    }

    static void sheet(ParcelBall x, int s, int bits, int... numbers) {
        x.sheet(s, bits, numbers.length);
        for (int i = 0; i < numbers.length; i++) {
            x.write(s, i, numbers[i]);
        }
    }
}
