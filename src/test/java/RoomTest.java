import com.sun.management.ThreadMXBean;
import java.lang.management.ManagementFactory;

/** All calls of a run share one room: no call makes objects, and an object is small. */
public final class RoomTest {
    public static void main(String[] args) {
        ThreadMXBean bean = (ThreadMXBean) ManagementFactory.getThreadMXBean();
        long id = Thread.currentThread().getId();
        BentPlain x = full();
        for (int i = 0; i < 20; i++) {
            allCalls(x);
        }
        long before = bean.getThreadAllocatedBytes(id);
        for (int i = 0; i < 100; i++) {
            allCalls(x);
        }
        long calls = bean.getThreadAllocatedBytes(id) - before;
        Due.holds("4000 calls make no objects, not " + calls + " bytes", calls < 4000);
        before = bean.getThreadAllocatedBytes(id);
        BentPlain y = new BentPlain();
        long made = bean.getThreadAllocatedBytes(id) - before;
        Due.holds("an object takes " + made + " bytes", made < 8000 && y.count(0) == 0);
        Due.end();
    }

    private static BentPlain full() {
        BentPlain x = new BentPlain();
        for (int f = 0; f < 16; f++) {
            x.field(f % 10);
        }
        for (int f = 0; f < 16; f++) {
            x.glue(f, 1, (f + 1) % 16, 3);
        }
        for (int w = 0; w < 6; w++) {
            x.walker(w, w, w % 4);
        }
        return x;
    }

    private static void allCalls(BentPlain x) {
        x.image();
        x.steps(100);
        x.on(5, 100, 2);
        x.when(0, 15);
        x.back(3);
        x.meet(0, 1);
        x.spares(100);
        x.closes(0, 1);
        x.bumps(0, 1);
        x.square(0, 1, 9);
        x.dine(0, 1, 1, 1);
        x.sees(0, 1);
        x.twice(0);
        x.about(0, 0);
        x.corners();
        x.excess();
        x.bent();
        x.parts();
        x.far(0, 8);
        x.smooth(0, 8);
        x.turns(0, 0, 8);
        x.within(0, 16);
        x.mends(0, 8);
        x.feed('c' << 24 | 'a' << 16 | 't' << 8 | ' ', 4);
        x.plain();
        x.sheet(0, 64, 40);
        x.sheet(1, 64, 40);
        x.book(0, 0);
        x.read(0, 0);
        x.copy(0, 0, 1, 0, 40);
        x.write(0, 0, 1);
        x.lays(0);
        x.cut(0, 1);
        x.undo();
        x.tear();
        x.wipe();
        x.status(-1);
        x.count(3);
        x.of(0, 1);
        x.its(0, 5);
    }
}
