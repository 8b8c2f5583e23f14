/** The edges that promises 28 to 30 and the terms of texts name, each by itself. */
public final class TextEdgesTest {
    private static final Due due = new Due("TextEdgesTest");
    private static final Edges edges = new Edges(due);
    private static final String[] KINDS = {"piece", "ticking", "birthday", "row", "letter", "hers", "fuse"};

    public static void main(String[] args) {
        feedBounds();
        feedFull();
        feedLowestBytes();
        wipeOfNoneAndFull();
        nothingToRead();
        eachByteAlone();
        eachByteBehindAWord();
        eachByteBehindANumber();
        eachNumber();
        numbersLeftOut();
        blanksOrNone();
        cutAnywhere();
        ninthPiece();
        mostItems();
        faultBeforeFault();
        faultChangesNothing();
        rightChangesTheRest();
        due.end();
    }

    private static String blanks(int n) {
        return " ".repeat(n);
    }

    /** A tape of so many bytes, the last six a text. */
    private static ParcelBall tapeOf(int bytes) {
        ParcelBall x = new ParcelBall();
        Due.feed(x, blanks(bytes - 6) + "drag 7");
        return x;
    }

    // ---- promise 28

    private static void feedBounds() {
        edges.bounds("feed(.., #) to none", Worlds::none, 1, 4, (x, v) -> x.feed(0x726f7720, v));
        edges.bounds("feed(.., #) to some", Worlds::some, 1, 4, (x, v) -> x.feed(0x726f7720, v));
        edges.beside("feed(.., #) to full, BEYOND before FULL", Worlds::full, 1, 4, (x, v) -> x.feed(0x20202020, v));
        for (int n = 1; n <= 4; n++) {
            ParcelBall x = new ParcelBall();
            for (int i = 1; i * n <= 120; i++) {
                due.is("feed of " + n, x.feed(0x20202020, n), i * n);
                due.is("bytes of the tape", x.count(5), i * n);
            }
            int bytes = n;
            edges.refused("feed of " + n + " to full", Worlds::full, y -> y.feed(0x3b3b3b3b, bytes), Due.FULL);
        }
    }

    /** Up to the 120th byte; of what would go beyond that not even a part comes. */
    private static void feedFull() {
        for (int size = 114; size <= 120; size++) {
            for (int n = 1; n <= 4; n++) {
                int bytes = size;
                int more = n;
                String call = "feed of " + n + " to " + size;
                if (size + n <= 120) {
                    ParcelBall x = tapeOf(size);
                    due.is(call, x.feed(0x20202020, n), size + n);
                    due.is("its text", x.text(), 1);
                } else {
                    edges.refused(call, () -> tapeOf(bytes), x -> x.feed(0x3b3b3b3b, more), Due.FULL);
                }
            }
        }
    }

    /** The highest of these comes first; what stands above them is cut off, a sign, too. */
    private static void feedLowestBytes() {
        int[] above = {0, 'x', ';', 127, 128, 255};
        for (int high : above) {
            ParcelBall x = new ParcelBall();
            x.feed(high << 24 | high << 16 | 'r' << 8 | 'o', 2);
            x.feed(high << 24 | high << 16 | high << 8 | 'w', 1);
            x.feed(high << 24 | ';' << 16 | 'r' << 8 | 'o', 3);
            x.feed('w' << 24 | ' ' << 16 | 't' << 8 | 'o', 4);
            x.feed(high << 24 | high << 16 | '1' << 8 | '1', 2);
            due.is("two rows, below " + high, x.text(), 2);
            due.is("the first to 0", x.of(0, 1), 0);
            due.is("the second to 11", x.of(1, 1), 11);
        }
        int[] noToken = {128, 200, 255};
        for (int high : noToken) {
            for (int n = 1; n <= 4; n++) {
                ParcelBall x = new ParcelBall();
                int blanksBehind = 0x20202020 & (1 << 8 * (n - 1)) - 1;
                x.feed(high << 8 * (n - 1) | blanksBehind, n);
                due.is("byte " + high + " first of " + n, x.count(5), n);
                due.is("it begins no token", x.text(), -1);
            }
        }
    }

    // ---- promise 29

    private static void wipeOfNoneAndFull() {
        edges.tells("wipe() of none", Worlds::none, x -> x.wipe(), 0);
        for (int size = 6; size <= 120; size++) {
            ParcelBall x = tapeOf(size);
            due.is("wipe() of " + size, x.wipe(), size);
            due.is("wipe() again", x.wipe(), 0);
            edges.alike("wipe() of " + size, x, Worlds.none());
        }
        ParcelBall full = Worlds.full();
        due.is("wipe() of full", full.wipe(), 120);
        due.is("room again", full.feed(0x20202020, 4), 4);
        due.is("no finding", full.status(-1), 0);
    }

    // ---- promise 30

    private static void reads(String text, int want) {
        ParcelBall x = new ParcelBall();
        due.is("\"" + text + "\"", Due.read(x, text), want);
        due.is("the tape behind \"" + text + "\"", x.count(5), 0);
        due.is("no finding by \"" + text + "\"", x.status(-1), 0);
        if (want < 0) {
            edges.alike("\"" + text + "\"", x, Worlds.none());
        }
    }

    /** Where the FAULT is behind the last byte: it ends too early. */
    private static void nothingToRead() {
        for (int n = 0; n <= 120; n++) {
            reads(blanks(n), -1 - n);
            if (n >= 3) {
                reads(blanks(n - 3) + "row", 1);
            }
        }
    }

    private static boolean isLetter(int b) {
        return b >= 'a' && b <= 'z';
    }

    private static boolean isDigit(int b) {
        return b >= '0' && b <= '9';
    }

    private static void eachByteAlone() {
        for (int b = 0; b < 256; b++) {
            reads("" + (char) b, b == ' ' ? -2 : -1);
            reads("  " + (char) b, b == ' ' ? -4 : -3);
            reads((char) b + "row", b == ' ' ? 1 : -1);
        }
    }

    /** A letter makes it another word; a blank is nothing; ; wants an item; all others can't stand there. */
    private static void eachByteBehindAWord() {
        for (int b = 0; b < 256; b++) {
            reads("row" + (char) b, b == ' ' ? 1 : b == ';' ? -5 : isLetter(b) ? -1 : -4);
            reads("row " + (char) b, b == ' ' ? 1 : b == ';' ? -6 : -5);
            reads("row;row" + (char) b, b == ' ' ? 2 : b == ';' ? -9 : isLetter(b) ? -5 : -8);
            reads("drag" + (char) b, isDigit(b) ? 1 : b == ' ' ? -6 : isLetter(b) ? -1 : -5);
            reads("row to" + (char) b, isDigit(b) ? 1 : b == ' ' ? -8 : isLetter(b) ? -5 : -7);
        }
    }

    private static void eachByteBehindANumber() {
        for (int b = 0; b < 256; b++) {
            boolean isPlace = b == '0' || b == '1';
            int behindBall = b == ' ' || isPlace ? 1 : b == ';' ? -8 : isDigit(b) ? -6 : -7;
            reads("ball 1" + (char) b, behindBall);
            int behindDrag = b == ' ' || isDigit(b) ? 1 : b == ';' ? -8 : -7;
            reads("drag 9" + (char) b, behindDrag);
        }
    }

    /** Each number from 0 to what no number is any more, in each place of a text. */
    private static void eachNumber() {
        for (int v = 0; v <= 1001; v++) {
            reads("row to " + v, v <= 11 ? 1 : -8);
            reads("row long " + v, v >= 1 && v <= 99 ? 1 : -10);
            reads("row knots " + v, v <= 9 ? 1 : -11);
            reads("ball " + v, v <= 11 ? 1 : -6);
            reads("drag " + v, v <= 99 ? 1 : -6);
        }
        String[] tooGreat = {"4294967296", "4294967297", "18446744073709551617", "2147483648", "99999999999999999999"};
        for (String v : tooGreat) {
            reads("row to " + v, -8);
            reads("row long " + v, -10);
            reads("row knots " + v, -11);
            reads("ball " + v, -6);
            reads("drag " + v, -6);
        }
        for (int v = 0; v <= 99; v++) {
            ParcelBall x = new ParcelBall();
            int place = Math.min(11, v);
            int length = Math.max(1, v);
            int knots = Math.min(9, v);
            String text = "ball " + place + ";drag " + v + ";fuse to " + place + " long " + length + " knots " + knots;
            due.is(text, Due.read(x, text), 3);
            due.is("the ball by " + text, x.count(2), place);
            due.is("the drag by " + text, x.drag(0), v);
            int[] told = {Due.FUSE, place, length, knots, 0, 0};
            for (int what = 0; what < 6; what++) {
                due.is(what + " by " + text, x.of(0, what), told[what]);
            }
        }
    }

    /** Each of the three may be left out, and is as at first then; another order can't be. */
    private static void numbersLeftOut() {
        for (int kind = 0; kind < 7; kind++) {
            for (int set = 0; set < 8; set++) {
                String text = KINDS[kind] + ((set & 1) != 0 ? " to 9" : "") + ((set & 2) != 0 ? " long 99" : "")
                    + ((set & 4) != 0 ? " knots 9" : "");
                ParcelBall x = Due.wound(4, Due.HERS);
                due.is(text, Due.read(x, text), 1);
                due.is("its number", x.count(1), 2);
                int[] told = {kind, (set & 1) != 0 ? 9 : 0, (set & 2) != 0 ? 99 : 10, (set & 4) != 0 ? 9 : 0, 0, 0};
                for (int what = 0; what < 6; what++) {
                    due.is(what + " by " + text, x.of(1, what), told[what]);
                }
                due.is("the inner one stays", x.of(0, 1), 4);
            }
        }
        reads("row to 1 to 1", -10);
        reads("row long 1 long 1", -12);
        reads("row knots 1 knots 1", -13);
        reads("row long 1 to 1", -12);
        reads("row knots 1 to 1", -13);
        reads("row knots 1 long 1", -13);
        reads("ball 1 to 1", -8);
        reads("drag 1 long 1", -8);
    }

    private static void blanksOrNone() {
        reads("row;row", 2);
        reads("row ;row", 2);
        reads("row; row", 2);
        reads(" row  ;  row ", 2);
        reads("rowto1", -1);
        reads("row to1long1knots1;ball1;drag1", 3);
        reads("row to 1long 1knots 1;ball 1;drag 1", 3);
        reads("r ow", -1);
        reads("row to 1 1", -10);
        reads("drag 1 1", -8);
        reads(blanks(50) + "row" + blanks(30) + "to" + blanks(30) + "1234", -1 - 115);
        reads(blanks(50) + "row" + blanks(30) + "to" + blanks(30) + "0011", 1);
    }

    /** A word cut short is another word; a word or a ; that wants more ends too early; a number is right. */
    private static void cutAnywhere() {
        String text = " row to 7 long 9 knots 4 ; ball 3 ;drag 44";
        for (int cut = 0; cut <= text.length(); cut++) {
            String part = text.substring(0, cut);
            String last = lastToken(part);
            boolean isCutShort = !last.isEmpty() && isLetter(last.charAt(0)) && part.endsWith(last)
                && isLetter(text.charAt(cut));
            if (isCutShort) {
                reads(part, -1 - (cut - last.length()));
            } else if (last.isEmpty() || " to long knots ball drag ; ".contains(" " + last + " ")) {
                reads(part, -1 - cut);
            } else {
                reads(part, 1 + (int) part.chars().filter(c -> c == ';').count());
            }
        }
    }

    private static String lastToken(String part) {
        String trimmed = part.trim();
        return trimmed.endsWith(";") ? ";" : trimmed.replaceAll(".*[ ;]", "");
    }

    /** As many as there is room for are taken; the next one's own word is the FAULT. */
    private static void ninthPiece() {
        for (int there = 0; there <= 8; there++) {
            for (int kind = 0; kind < 7; kind++) {
                ParcelBall x = Due.wound(5, new int[there]);
                StringBuilder text = new StringBuilder();
                for (int i = there; i < 8; i++) {
                    text.append("row;");
                }
                int at = text.length();
                due.is("a 9th behind " + there, Due.read(x, text + KINDS[kind] + " to 1"), -1 - at);
                due.is("none came", x.count(1), there);
                text.append("drag 1");
                due.is("an 8th behind " + there, Due.read(x, text.toString()), 9 - there);
                due.is("all came", x.count(1), 8);
                due.is("no finding", x.status(-1), 0);
            }
        }
        due.is("a 9th that has a fault, too", Due.read(Worlds.longest(5), "ball 1; row to 99"), -1 - 8);
        due.is("a fault before a 9th", Due.read(Worlds.longest(5), "ball 99; row"), -1 - 5);
        due.is("another word of full", Due.read(Worlds.longest(5), "rows"), -1);
    }

    private static void mostItems() {
        reads("ball0;".repeat(19) + "ball11", 20);
        reads("ball0;".repeat(20), -1 - 120);
        reads("row;".repeat(7) + "row", 8);
        reads(";".repeat(120), -1);
        reads("x".repeat(120), -1);
        reads("drag" + "0".repeat(114) + "99", 1);
        reads("drag" + "0".repeat(113) + "100", -5);
    }

    private static void faultBeforeFault() {
        reads("row to 12 long 100", -8);
        reads("row to 11 long 100 knots 10", -16);
        reads("row to 11 long 99 knots 10", -25);
        reads("ball 12;drag 100", -6);
        reads("ball 11;drag 100", -14);
        reads("rows;#", -1);
        reads("row;#;rows", -5);
        reads("row to #", -8);
    }

    private static void faultChangesNothing() {
        String[] faults = {"", "ball 0;drag 0;fuse", "ball 0;drag 0;row to 12", "drag 0;ball 12", "ball 0;", "ball 0#"};
        for (String fault : faults) {
            ParcelBall read = Worlds.full();
            read.wipe();
            due.holds("\"" + fault + "\" has a fault", Due.read(read, fault) < 0);
            ParcelBall wiped = Worlds.full();
            wiped.wipe();
            due.is("no finding by \"" + fault + "\"", read.status(-1), wiped.status(-1));
            edges.alike("\"" + fault + "\"", read, wiped);
        }
    }

    /** Another who is told the same call by call is alike then. */
    private static void rightChangesTheRest() {
        ParcelBall read = Worlds.some();
        due.is("text()", read.text(), 3);
        ParcelBall told = Worlds.some();
        told.wipe();
        told.ball(3);
        told.drag(44);
        told.wind(Due.ROW, 7);
        told.change(3, 2, 33);
        told.change(3, 3, 4);
        edges.alike("a right text", read, told);
    }
}
