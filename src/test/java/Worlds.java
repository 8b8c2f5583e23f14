/** Balls made alike each time: one with nothing, one with some of all, one with as much as it takes. */
final class Worlds {
    /** Fits into a tape behind which nothing stands. */
    private static final String TEXT = "ball 3;drag 44;row to 7 long 33 knots 4";

    private Worlds() {
    }

    static ParcelBall none() {
        return new ParcelBall();
    }

    /** Three pieces, three spots, a text of 39 bytes, sheets of 8, 16 and 32 bits and a MISSING one. */
    static ParcelBall some() {
        ParcelBall x = new ParcelBall();
        x.wind(Due.FUSE, 9);
        x.wind(Due.LETTER, 2);
        x.wind(Due.HERS, 7);
        x.change(0, 2, 40);
        x.change(1, 3, 4);
        x.change(1, 4, 300);
        x.change(2, 2, 23);
        x.change(2, 5, 17);
        x.ball(6);
        x.drag(13);
        x.seed(-77);
        x.hold(0, 0);
        x.hold(4, 2);
        x.go(3);
        x.image();
        x.hold(9, 1);
        x.go(12);
        Due.feed(x, TEXT);
        Due.sheet(x, 0, 8, 5, -1, 99, 12);
        Due.sheet(x, 1, 16, 30, 7, 1);
        Due.sheet(x, 2, 32, 44, -1);
        return x;
    }

    /** Eight pieces, ten spots, a text of 120 bytes, and no sheet that is MISSING, the first of 40 numbers. */
    static ParcelBall full() {
        ParcelBall x = new ParcelBall();
        for (int piece = 0; piece < 8; piece++) {
            x.wind((piece + 1) % 7, 11 - piece);
        }
        int[] numbers = new int[40];
        for (int i = 0; i < 40; i++) {
            numbers[i] = 99 - i;
        }
        Due.sheet(x, 0, 8, numbers);
        Due.sheet(x, 1, 8, 1, 2, 3);
        Due.sheet(x, 2, 16, 4, 5);
        Due.sheet(x, 3, 32, 6, 7);
        x.load(0);
        x.seed(31);
        x.image();
        x.change(7, 3, 9);
        x.change(6, 5, 9999);
        x.go(31);
        for (int spot = 0; spot < 10; spot++) {
            x.hold(spot, spot % 8);
        }
        Due.feed(x, "ball 3 ;" + " ".repeat(105) + "drag 44");
        return x;
    }

    /** No room is left for LONG: eight pieces of 99 each, all TO one place. */
    static ParcelBall longest(int place) {
        ParcelBall x = new ParcelBall();
        for (int piece = 0; piece < 8; piece++) {
            x.wind(Due.PIECE, place);
            x.change(piece, 2, 99);
        }
        return x;
    }

    /** At a DAY that takes more calls than an object is used for; nothing else has changed. */
    static ParcelBall atDay(int day) {
        ParcelBall x = new ParcelBall();
        while (day - x.count(0) > 60) {
            x.go(60);
        }
        if (day > x.count(0)) {
            x.go(day - x.count(0));
        }
        return x;
    }
}
