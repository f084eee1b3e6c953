import com.sun.management.ThreadMXBean;
import java.lang.management.ManagementFactory;
import java.util.function.Supplier;
import java.util.function.ToLongFunction;

/** Rule 12 of LANGUAGE.md: what a new object, a table and the other calls make, in bytes. */
final class RoomTest {
    private static final ThreadMXBean MADE = (ThreadMXBean) ManagementFactory.getThreadMXBean();
    private static final int TIMES = 200;
    private static final int OBJECT = 16000;
    private static final int TABLE = 800;
    private static final String FULL_TABLE = "t2,3;f0,10;f7,20;g0eeeebwww;s5eenwwbbe;d14wwwwneee;r2bbeennww;";

    private static long answers;

    public static void main(String[] args) {
        atMost("new PadPolish()", OBJECT, RoomTest::newOne, x -> new PadPolish().count(0));
        tables();
        makesNothing("charge", x -> x.charge(99, 99));
        makesNothing("make", x -> x.make(1));
        makesNothing("stand", x -> x.stand(1));
        makesNothing("rest", x -> x.rest());
        makesNothing("undo", x -> x.undo());
        makesNothing("row", x -> x.row(3, 2, 40));
        makesNothing("set", x -> x.set(0, 3, 500));
        makesNothing("copy", x -> x.copy(0, 0, 0, 5, 15));
        makesNothing("drop", x -> x.drop(5));
        makesNothing("feed", x -> x.feed('t'));
        makesNothing("fault", x -> x.fault());
        makesNothing("cell", x -> x.cell(3, 3));
        makesNothing("path and pad", x -> x.path(2, 3) + x.pad(2));
        makesNothing("ahead", x -> x.ahead(20, 7, 0));
        makesNothing("uneven", x -> x.uneven(20));
        makesNothing("order", x -> x.order(-1));
        makesNothing("enough", x -> x.enough(999));
        makesNothing("wetFor", x -> x.wetFor(0, 99));
        makesNothing("over", x -> x.over(32767, 1));
        makesNothing("goOn", x -> x.goOn());
        makesNothing("done", x -> x.done(0, 5, 1));
        makesNothing("cups and thin", x -> x.cups(32767, 999) + x.thin());
        makesNothing("dust", x -> x.dust(3, 10, 5, 1));
        makesNothing("evenings", x -> x.evenings(30, 999999, 1));
        makesNothing("image", x -> x.image(0));
        makesNothing("restore", x -> x.restore(1));
        makesNothing("kind and as", x -> x.kind(3) + x.as(1, 4));
        makesNothing("ask and trace", x -> x.ask(1, 0) + x.trace(3));
        makesNothing("count and status", x -> x.count(0) + x.status());
        System.out.println("a sum of answers, so that none is left out: " + answers);
        Checks.end();
    }

    private static PadPolish newOne() {
        PadPolish x = Checks.told(FULL_TABLE);
        x.row(0, 1, 40);
        x.charge(80, 70);
        x.image(1);
        return x;
    }

    /** Calls on one object, no more than it is promised. The first of all may load classes: it is not counted. */
    private static void atMost(String call, int bytes, Supplier<PadPolish> past, ToLongFunction<PadPolish> made) {
        answers += made.applyAsLong(past.get());
        PadPolish x = past.get();
        long before = MADE.getThreadAllocatedBytes(Thread.currentThread().getId());
        for (int i = 0; i < TIMES; i++) {
            answers += made.applyAsLong(x);
        }
        long each = (MADE.getThreadAllocatedBytes(Thread.currentThread().getId()) - before) / TIMES;
        isWithin(call, each, bytes);
    }

    private static void makesNothing(String call, ToLongFunction<PadPolish> made) {
        atMost(call, 4, RoomTest::newOne, made);
    }

    /** Feeding makes nothing, so what is made is the table's. */
    private static void tables() {
        PadPolish x = newOne();
        Checks.feed(x, FULL_TABLE);
        long before = MADE.getThreadAllocatedBytes(Thread.currentThread().getId());
        answers += x.table();
        long made = MADE.getThreadAllocatedBytes(Thread.currentThread().getId()) - before;
        isWithin("table()", made, TABLE);
    }

    private static void isWithin(String call, long made, int most) {
        Checks.due(call + " makes " + made + " bytes; that they are " + most + " at most", made <= most ? 1 : 0, 1);
    }
}
