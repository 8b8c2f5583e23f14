import java.lang.management.ManagementFactory;

/** What a run makes: an object's rows once, and nothing by its calls. */
public final class RoomTest {
    private static final int CALLS = 512;
    private static final Due due = new Due("RoomTest");

    public static void main(String[] args) {
        for (int i = 0; i < 50; i++) {
            dearestCalls(fullBall());
        }
        ParcelBall[] made = new ParcelBall[64];
        long before = allocated();
        for (int i = 0; i < made.length; i++) {
            made[i] = new ParcelBall();
        }
        long each = (allocated() - before) / made.length;
        due.holds("an object takes " + each + " bytes, under 4000", each > 0 && each < 4000);
        ParcelBall x = fullBall();
        before = allocated();
        for (int i = 0; i < CALLS / 40; i++) {
            dearestCalls(x);
        }
        long byCalls = allocated() - before;
        due.holds("calls made " + byCalls + " bytes, none beyond the machine's own", byCalls < 1000);
        due.end();
    }

    private static long allocated() {
        com.sun.management.ThreadMXBean threads =
            (com.sun.management.ThreadMXBean) ManagementFactory.getThreadMXBean();
        return threads.getThreadAllocatedBytes(Thread.currentThread().getId());
    }

    private static ParcelBall fullBall() {
        ParcelBall x = new ParcelBall();
        for (int piece = 0; piece < 8; piece++) {
            x.wind(piece % 7, piece);
        }
        x.sheet(0, 8, 40);
        return x;
    }

    private static void dearestCalls(ParcelBall x) {
        for (int s = 0; s < 3; s++) {
            x.feed('r' << 16 | 'o' << 8 | 'w', 3);
            x.text();
        }
        for (int i = 0; i < 3; i++) {
            x.loosen(11 * i, 20);
            x.longFor(i, 11, 40);
            x.dragFor(11, 40);
            x.drawTo(i, 11, 40);
            x.kindFor(i, 40);
            x.fits(0, i);
            x.kinds(0, i);
            x.when(11);
            x.comes(i);
            x.ahead(i, 9, 100);
        }
        x.parcels(20);
        x.image();
        x.undo();
    }
}
