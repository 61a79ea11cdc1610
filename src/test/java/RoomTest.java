import com.sun.management.ThreadMXBean;
import java.lang.management.ManagementFactory;

/** All calls of one run live in one room: an object makes little, and its calls make nothing. */
public final class RoomTest {
    private static final ThreadMXBean THREADS = (ThreadMXBean) ManagementFactory.getThreadMXBean();
    private static final int MOST_OF_AN_OBJECT = 32 * 1024;
    /** What measuring itself makes. */
    private static final int MOST_OF_CALLS = 2048;

    private RoomTest() {
    }

    private static long made() {
        return THREADS.getThreadAllocatedBytes(Thread.currentThread().getId());
    }

    public static void main(String[] args) {
        Due.of("the room");
        everyCall(crowded());
        GreatCambric x = crowded();
        long before = made();
        everyCall(x);
        long calls = made() - before;
        Due.due("calls made " + calls + " bytes", 1, calls <= MOST_OF_CALLS ? 1 : 0);
        before = made();
        x = new GreatCambric();
        long object = made() - before;
        Due.due("an object is " + object + " bytes", 1, object <= MOST_OF_AN_OBJECT ? 1 : 0);
        Due.due(1, x.parts());
        Due.end();
    }

    private static GreatCambric crowded() {
        GreatCambric x = new GreatCambric();
        for (int i = 0; i < 8; i++) {
            x.mourner(i % 7 * 10 + i, 50 + i, i * 2);
        }
        for (int c = 0; c < 10; c++) {
            x.cell(c, 0, 9 * c + 1);
            x.cell(15 - c, 1, 1);
        }
        String t = "w+s*2-y/3+(!(w<9)&s)|0";
        for (int i = 0; i < t.length(); i++) {
            x.feed(t.charAt(i), 1);
        }
        return x;
    }

    private static void everyCall(GreatCambric x) {
        x.image();
        x.text(0);
        x.law(0, 1, 2, 3);
        x.sheet(0, 32, 0);
        x.sheet(1, 32, 40);
        x.sheet(2, 32, 40);
        x.put(1, 0, 500);
        x.move(1, 0, 2, 0, 40);
        x.judge(1);
        x.tell(4);
        x.check();
        x.dry(9);
        x.eased(7, 0);
        x.then(60, 3);
        x.all(60, 0);
        x.cellFor(7, 60);
        x.comesFor(5, 60);
        x.kindFor(7, 60);
        x.folded(11234, 3, 0);
        x.topFor(15);
        x.route(0, 4);
        x.parts();
        x.mends();
        x.game(1);
        x.which(1, 6);
        x.sorry(1, 6, 0);
        x.odds(30, 500, 1);
        for (int i = 0; i < 8; i++) {
            x.voice(i, 3, 9);
            x.trace(i);
            x.ofMourner(i, 5);
            x.as(i, 3);
        }
        x.seed(9);
        x.loose(40);
        x.years(60);
        x.wets(1);
        x.restore();
        x.count(6);
        x.told(2);
    }
}
