import java.util.Arrays;

/** All that a ball is but for status(), as numbers; the telling uses the ball up. */
final class Told {
    private final ParcelBall x;
    private long[] numbers = new long[64];
    private int many = 0;

    private Told(ParcelBall x) {
        this.x = x;
    }

    static long[] all(ParcelBall x) {
        Told told = new Told(x);
        told.ball();
        told.sheets();
        told.tape();
        told.image();
        return Arrays.copyOf(told.numbers, told.many);
    }

    private void put(long number) {
        if (many == numbers.length) {
            numbers = Arrays.copyOf(numbers, 2 * many);
        }
        numbers[many++] = number;
    }

    private void ball() {
        for (int what = 0; what < 8; what++) {
            put(x.count(what));
        }
        for (int piece = 0; piece < x.count(1); piece++) {
            for (int what = 0; what < 6; what++) {
                put(x.of(piece, what));
            }
        }
        for (int spot = 0; spot < 10; spot++) {
            put(x.as(spot, Due.PIECE));
        }
        int drag = x.drag(0);
        put(drag);
        x.drag(drag);
    }

    /** A number is brought to the sheet's begin and becomes a length, or is judged as a place. */
    private void sheets() {
        if (x.count(1) == 0) {
            x.wind(Due.PIECE, 0);
        }
        for (int s = 0; s < 4; s++) {
            put(x.copy(s, 0, (s + 1) % 4, 0, 0));
            put(x.copy(s, 0, (s + 2) % 4, 0, 0));
            put(x.fits(s, 0));
        }
        for (int s = 0; s < 4; s++) {
            for (int i = 0; x.copy(s, i, s, 0, 1) == 1; i++) {
                put(x.load(s));
                put(x.of(0, 2));
            }
            put(x.judge(s));
        }
    }

    private void tape() {
        put(x.text());
        put(x.count(2));
        put(x.drag(0));
        int pieces = x.count(1);
        put(pieces);
        for (int what = 0; what < 6; what++) {
            put(x.of(pieces - 1, what));
        }
    }

    private void image() {
        put(x.undo());
        ball();
    }
}
