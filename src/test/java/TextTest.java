/** Promises 28 to 30: feed, wipe, text. */
public final class TextTest {
    private static final Due due = new Due("TextTest");

    public static void main(String[] args) {
        feed();
        wipe();
        rightTexts();
        pieceByPiece();
        faults();
        faultChangesNothing();
        ninthPiece();
        due.end();
    }

    private static void feed() {
        ParcelBall x = new ParcelBall();
        due.is("feed n 0", x.feed(0, 0), Due.BEYOND);
        due.is("feed n 5", x.feed(0, 5), Due.BEYOND);
        due.is("feed n -1", x.feed(0, -1), Due.BEYOND);
        for (int i = 1; i <= 29; i++) {
            due.is("feed 4", x.feed(0x20202020, 4), 4 * i);
        }
        due.is("feed 3", x.feed(0x202020, 3), 119);
        due.is("feed 2 into 1", x.feed(0x2020, 2), Due.FULL);
        due.is("feed n 5 into 1", x.feed(0x2020, 5), Due.BEYOND);
        due.is("still 119", x.count(5), 119);
        due.is("feed 1", x.feed(0x20, 1), 120);
        due.is("feed 1 into 0", x.feed(0x20, 1), Due.FULL);
        due.is("a text of blanks ends too early", x.text(), -121);
        x.feed('?' << 24 | 'r' << 16 | 'o' << 8 | 'w', 3);
        due.is("the lowest three, highest first", x.text(), 1);
        x.feed(-1, 1);
        due.is("byte 255 begins no token", x.text(), -1);
    }

    private static void wipe() {
        ParcelBall x = new ParcelBall();
        Due.feed(x, "piece");
        due.is("wipe()", x.wipe(), 5);
        due.is("wipe() of none", x.wipe(), 0);
        due.is("text() of none", x.text(), -1);
        due.is("no finding", x.status(-1), 0);
    }

    private static void reads(String text, int want) {
        ParcelBall x = new ParcelBall();
        due.is("\"" + text + "\"", Due.read(x, text), want);
        due.is("the tape is empty behind it", x.count(5), 0);
        due.is("no finding by \"" + text + "\"", x.status(-1), 0);
    }

    private static void rightTexts() {
        reads("piece", 1);
        reads("  piece  ", 1);
        reads("piece;piece ; ticking;birthday ;row;letter;hers;fuse", 8);
        reads("ball 0;ball 11;drag 0;drag 99", 4);
        reads("ball0;drag99", 2);
        reads("row to 11 long 99 knots 9", 1);
        reads("row to0long1knots0", 1);
        reads("row to 0011 long 0000000001 knots 09", 1);
        reads("row long 5", 1);
        reads("row knots 5", 1);
        reads("row to 5 knots 5", 1);
        reads("row long 5 knots 5;drag 5", 2);
    }

    private static void pieceByPiece() {
        String[] words = {"piece", "ticking", "birthday", "row", "letter", "hers", "fuse"};
        for (int kind = 0; kind < 7; kind++) {
            ParcelBall x = Due.wound(5, Due.PIECE);
            due.is(words[kind], Due.read(x, words[kind] + ";" + words[kind] + " to 3 long 42 knots 7"), 2);
            int[] plain = {kind, 0, 10, 0, 0, 0};
            int[] told = {kind, 3, 42, 7, 0, 0};
            for (int what = 0; what < 6; what++) {
                due.is("plain " + words[kind] + " " + what, x.of(1, what), plain[what]);
                due.is("told " + words[kind] + " " + what, x.of(2, what), told[what]);
            }
            due.is("three now", x.count(1), 3);
        }
        ParcelBall x = new ParcelBall();
        due.is("item by item", Due.read(x, "ball 3;drag 7;ball 9;drag 77"), 4);
        due.is("the ball at the last", x.ball(0), 9);
        due.is("the drag at the last", x.drag(0), 77);
    }

    private static void faults() {
        reads("", -1);
        reads("   ", -4);
        reads("twine", -1);
        reads("pieces", -1);
        reads("niece", -1);
        reads("piecf", -1);
        reads("rowz", -1);
        reads("rowa", -1);
        reads("rowto 3", -1);
        reads("row`", -4);
        reads("row{", -4);
        reads("row/", -4);
        reads("row:", -4);
        reads("Piece", -1);
        reads("piece to", -9);
        reads("piece to  ", -11);
        reads("piece to 12", -10);
        reads("piece to 99999999999999999999", -10);
        reads("piece to 4294967296", -10);
        reads("piece to x", -10);
        reads("piece to ;", -10);
        reads("piece long 0", -12);
        reads("piece long 100", -12);
        reads("piece long 1000", -12);
        reads("piece knots 10", -13);
        reads("piece knots 0 to 1", -15);
        reads("piece knots 0 long 1", -15);
        reads("piece long 1 to 1", -14);
        reads("piece to 1 to 1", -12);
        reads("piece 3", -7);
        reads("piece piece", -7);
        reads("piece;", -7);
        reads("piece; ", -8);
        reads("piece;;piece", -7);
        reads(";piece", -1);
        reads("ball", -5);
        reads("ball 12", -6);
        reads("ball piece", -6);
        reads("ball 1 2", -8);
        reads("ball 1ball 2", -7);
        reads("drag", -5);
        reads("drag 100", -6);
        reads("drag -1", -6);
        reads("drag 1,drag 2", -7);
        reads("drag 1;drag", -12);
        reads("to 3", -1);
        reads("3", -1);
        reads("row\tto 3", -4);
        reads("row\n", -4);
        reads("row#", -4);
        reads("row towards 3", -5);
    }

    private static void faultChangesNothing() {
        ParcelBall x = Due.wound(4, Due.HERS);
        due.is("a late fault", Due.read(x, "ball 3;drag 7;piece to 1;row to 12"), -1 - 32);
        due.is("no piece came", x.count(1), 1);
        due.is("the ball stays", x.ball(5), 5);
        due.is("the drag stays", x.drag(10), 10);
        due.is("the piece stays", x.of(0, 1), 4);
        due.is("the tape is empty", x.count(5), 0);
    }

    private static void ninthPiece() {
        ParcelBall x = Due.wound(4, 0, 0, 0, 0, 0, 0, 0);
        due.is("a 9th behind an 8th", Due.read(x, "row; fuse to 12"), -6);
        due.is("seven still", x.count(1), 7);
        due.is("the 8th", Due.read(x, "row to 3;drag 1"), 2);
        due.is("a 9th alone", Due.read(x, "  row"), -3);
        due.is("ball and drag all the same", Due.read(x, "drag 2;ball 2"), 2);
        due.is("eight", x.count(1), 8);
    }
}
