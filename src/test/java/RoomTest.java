import com.sun.management.ThreadMXBean;
import java.lang.management.ManagementFactory;

/** All calls of a run live in one room: the constructor makes little, the calls make nothing. */
public final class RoomTest {
    private static final Due due = new Due("RoomTest");
    private static final String TEXT = "b5;m1,0;m2,2;m3,4;m4,6;m5,8;m6,9;g0,1,2;l0,2,3;g0,3,4;w0,4,5;h0,5,6;s0,6,7;l0,7,8;g0,8,9;";

    public static void main(String[] args) {
        ThreadMXBean threads = (ThreadMXBean) ManagementFactory.getThreadMXBean();
        callAll(Due.told(TEXT));
        long start = threads.getCurrentThreadAllocatedBytes();
        MarbleRun x = new MarbleRun();
        long made = threads.getCurrentThreadAllocatedBytes() - start;
        due.holds("an object takes " + made + " bytes", made < 60000);
        start = threads.getCurrentThreadAllocatedBytes();
        for (int i = 0; i < TEXT.length(); i++) {
            x.feed(TEXT.charAt(i));
        }
        x.run();
        for (int k = 0; k < 10; k++) {
            callAll(x);
        }
        made = threads.getCurrentThreadAllocatedBytes() - start;
        due.holds("its calls take " + made + " bytes", made < 20000);
        due.end();
    }

    private static void callAll(MarbleRun x) {
        x.row(0, 2, 12);
        x.set(0, 1, 11);
        x.copy(0, 0, 0, 1, 3);
        x.drop(1);
        x.feed('b');
        x.run();
        x.ticks(3);
        x.tip(0);
        x.lead(0, 1, 9);
        x.again(0, 3);
        x.undo();
        x.ahead(0, 60);
        x.stands(0, 60, 1);
        x.trays(60, 1);
        x.when(0);
        x.rest();
        x.tips(40, 0);
        x.order(40, -1);
        x.leads(0, 40, 0);
        x.sets(9, 1);
        x.share(0, 99);
        x.byTurns(4, 20);
        x.who(0, 0, 0, 0, 12);
        x.weights(0, 0, 0, 0, 12);
        x.jam(0, 30, 4, 0);
        x.drawn(60, 99, 0);
        x.image(0);
        x.restore(0);
        x.as(0, 2);
        x.ask(1, 0);
        x.count(5);
    }
}
