import java.lang.management.ManagementFactory;
import java.util.LinkedHashMap;
import java.util.Map;
import java.util.function.ToIntFunction;

/** A run of calls keeps to its room: a new object is small, and no call makes anything. */
public final class RoomTest {
    private static final int TIMES = 10000;
    private static final int LEAST_OBJECT = 16;
    private static final int MOST_FOR_A_NEW_OBJECT = 20000;

    private static final com.sun.management.ThreadMXBean MEASURE =
        (com.sun.management.ThreadMXBean) ManagementFactory.getThreadMXBean();

    private static int wrong = 0;
    private static int sink = 0;

    private static long made() {
        return MEASURE.getThreadAllocatedBytes(Thread.currentThread().getId());
    }

    /** A full roll with worn rows, all routes and a full history, so that each call has its dearest work. */
    private static HandBlinds fullBlind() {
        HandBlinds x = new HandBlinds();
        String names = "A/B/C/D/E/F/G/H/I/J/K/L/M/N/O/P/Q/R/DEPOT";
        for (int i = 0; i < names.length(); i++) {
            x.type(names.charAt(i));
        }
        x.add();
        for (int i = 0; i < 6; i++) {
            x.route(1 + i);
        }
        x.crank(5, 3);
        return x;
    }

    private static Map<String, ToIntFunction<HandBlinds>> calls() {
        Map<String, ToIntFunction<HandBlinds>> all = new LinkedHashMap<>();
        all.put("type and clearText", x -> x.type('A') + x.clearText());
        all.put("type, add and cut", x -> x.type('A') + x.add() + x.cut(0) + x.clearText());
        all.put("swap", x -> x.swap(0, 18));
        all.put("crank up and mend", x -> x.crank(20, 3) + x.mend(0));
        all.put("crank down and mend", x -> x.crank(-20, 2) + x.mend(18));
        all.put("route and undo", x -> x.undo() + x.route(3));
        all.put("drive", x -> x.drive(0));
        all.put("stop", HandBlinds::stop);
        all.put("set", x -> x.set(1, 1));
        all.put("rowOf", x -> x.rowOf(18, 3) + x.rowOf(18, 6));
        all.put("letter", x -> x.letter(18, 4));
        all.put("routeOf", x -> x.routeOf(0, 2));
        all.put("would", x -> x.would(-20, 3, 1));
        all.put("nearest", x -> x.nearest(1));
        all.put("alike", x -> x.alike(3, 18));
        all.put("read", x -> x.read(1));
        all.put("find", HandBlinds::find);
        all.put("mean", HandBlinds::mean);
        all.put("count", x -> x.count(4) + x.count(9) + x.count(10));
        all.put("fault", x -> x.fault(0) + x.fault(1) + x.fault(2));
        return all;
    }

    private static void callMakesNothing(String name, ToIntFunction<HandBlinds> call) {
        HandBlinds x = fullBlind();
        long before = made();
        for (int i = 0; i < TIMES; i++) {
            sink += call.applyAsInt(x);
        }
        long bytes = made() - before;
        // The measuring itself may make a few objects, but not one for each call.
        if (bytes >= (long) TIMES * LEAST_OBJECT) {
            wrong++;
            System.out.println(name + " makes " + bytes / TIMES + " bytes a call");
        }
    }

    private static void newObjectIsSmall() {
        sink += new HandBlinds().count(0);
        long before = made();
        HandBlinds x = new HandBlinds();
        long bytes = made() - before;
        sink += x.count(0);
        if (bytes > MOST_FOR_A_NEW_OBJECT) {
            wrong++;
            System.out.println("a new object takes " + bytes + " bytes");
        }
    }

    public static void main(String[] arguments) {
        newObjectIsSmall();
        calls().forEach(RoomTest::callMakesNothing);
        System.out.println(wrong == 0 ? "no call makes anything" : wrong + " calls take too much room");
        if (wrong != 0) {
            System.exit(1);
        }
    }
}
