import com.sun.management.ThreadMXBean;
import java.lang.management.ManagementFactory;

/** All calls of a run live in one room: an object is small, and its calls make nothing more. */
public final class RoomTest {
    private static final int MOST_BYTES = 40_000, MOST_BYTES_OF_CALLS = 2_000;
    private static final Due due = new Due("RoomTest");

    public static void main(String[] args) {
        ThreadMXBean beans = (ThreadMXBean) ManagementFactory.getThreadMXBean();
        long me = Thread.currentThread().getId();
        useAll(Due.with("g2,3;m4,3,0;k8,2,2;s0,1,1;n3,3,3;h9,2,1;k7,1,0;m20,1,9;"));
        long first = beans.getThreadAllocatedBytes(me);
        NearlySaid x = new NearlySaid();
        long second = beans.getThreadAllocatedBytes(me);
        Due.read(x, "g2,3;m4,3,0;k8,2,2;s0,1,1;n3,3,3;h9,2,1;k7,1,0;m20,1,9;");
        useAll(x);
        long third = beans.getThreadAllocatedBytes(me);
        System.out.println("RoomTest: an object has " + (second - first) + " bytes, its calls " + (third - second));
        due.is("an object is small", second - first < MOST_BYTES ? 1 : 0, 1);
        due.is("calls make nothing", third - second < MOST_BYTES_OF_CALLS ? 1 : 0, 1);
        due.end();
    }

    private static void useAll(NearlySaid x) {
        for (int i = 0; i < 10; i++) {
            x.row(i % 8, 2, 40);
            x.set(0, 1, i);
            x.copy(0, 0, 0, 1, 39);
            x.minutes(3);
            x.talk(i % 7, i);
            x.hush(i % 7, 1);
            x.hush(i % 7, 0);
            x.bars(i % 7, 3);
            x.letDown(2);
            x.house(1, 5);
            x.stand(4);
            x.ahead(6, 99);
            x.pond(99, 1);
            x.over();
            x.full(0);
            x.most(3, 99, 0);
            x.hushes(6, 40, 0);
            x.spares(40, 0);
            x.catches(40, 0);
            x.from(0, 40);
            x.loud(0, 99);
            x.dry();
            x.lag(0);
            x.who(0, i % 3, 6, 0, 0, 12);
            x.silent(6, 0, 0, 12);
            x.hushed(40, 3, 0);
            x.drawn(60, 999999, 0);
            x.image(i % 2);
            x.undo();
            x.as(1, 4);
            x.ask(i % 7, i % 2);
            x.trace(0);
            x.count(4);
            x.status();
            x.fault();
            x.kind(0);
            x.drop(i % 8);
            x.restore(0);
        }
    }
}
