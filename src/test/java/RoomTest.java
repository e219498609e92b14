import java.lang.management.ManagementFactory;
import java.util.function.ToLongFunction;

/** What calls make is counted in bytes: a run has one room, so that an object's 512 calls stay far below it. */
public final class RoomTest {
    private static final Due due = new Due();
    private static final int CALLS = 512;
    /** The room has 7.3 million fields and elements, most of them of four bytes; this is a fiftieth of it. */
    private static final long MOST_OF_A_RUN = 600_000;
    private static final long MOST_OF_AN_OBJECT = 8_000;
    /** What counting itself may make. */
    private static final long SLACK = 400;
    private static final String WORST = "pace 1 !(y=1|s<2)&u>3;ease 2 b=1&(l<10|!k>9);spill 1 ((y=0));tire 5;shovel 9;x";

    private static final com.sun.management.ThreadMXBean COUNTER =
        (com.sun.management.ThreadMXBean) ManagementFactory.getThreadMXBean();

    private interface Call extends ToLongFunction<BarrowPlank> { }

    public static void main(String[] args) {
        // Once ahead, so that what the machine makes when it first meets a class is not counted.
        made(Probe.filled(), x -> x.count(0), 5);
        newObject();
        questionsMakeNothing();
        changesStayWithin();
        due.end();
    }

    private static long bytes() {
        return COUNTER.getCurrentThreadAllocatedBytes();
    }

    private static long made(BarrowPlank x, Call call, int times) {
        long sum = call.applyAsLong(x);
        long ahead = bytes();
        for (int k = 0; k < times; k++) {
            sum += call.applyAsLong(x);
        }
        long made = bytes() - ahead;
        due.holds("it answers", sum != Long.MAX_VALUE);
        return made;
    }

    private static void newObject() {
        BarrowPlank first = new BarrowPlank();
        long ahead = bytes();
        BarrowPlank second = new BarrowPlank();
        long made = bytes() - ahead;
        due.holds("a new object is small: " + made, made <= MOST_OF_AN_OBJECT);
        due.is("it is new", first.count(0) + second.count(0), 0);
    }

    private static void questionsMakeNothing() {
        Call[] asked = {x -> x.at(1, 1), x -> x.told(2), x -> x.of(1, 3), x -> x.run(0, 30, 20, 1),
            x -> x.by(0, 1, 9999), x -> x.full(0, 9999), x -> x.boards(0, 20, 3, 5, 0), x -> x.turns(0, 1, 1, 999),
            x -> x.worth(0, 999), x -> x.pave(0, 20), x -> x.odds(0, 20, 3, 1), x -> x.looked(0, 8),
            x -> x.trace(1), x -> x.as(0, 4), x -> x.count(3)};
        for (int k = 0; k < asked.length; k++) {
            long made = made(Probe.filled(), asked[k], CALLS);
            due.holds("question " + k + " makes nothing: " + made, made <= SLACK);
        }
    }

    private static void changesStayWithin() {
        Call[] changes = {x -> x.feed('p'), x -> x.yard(1, 0, 5), x -> x.earth(999), x -> x.man(4, 3, 2),
            x -> x.round(0, 8), x -> x.rest(0, 1), x -> x.book(40), x -> x.act(0, 2, 1 << 20), x -> x.image(),
            x -> x.undo(), x -> x.site()};
        for (int k = 0; k < changes.length; k++) {
            Call change = changes[k];
            long few = made(Probe.some(), change, CALLS);
            due.holds("change " + k + " stays within: " + few, few <= MOST_OF_A_RUN);
        }
        // A SITE by each site(), with THE IMAGE's TAPE again and again, is the dearest.
        BarrowPlank x = new BarrowPlank();
        Tapes.put(x, WORST.substring(0, WORST.length() - 2));
        x.image();
        long sites = made(x, y -> y.undo() + y.site(), CALLS);
        due.is("a SITE each time", x.count(1), 1);
        due.holds("SITES stay within: " + sites, sites <= MOST_OF_A_RUN);
        x = new BarrowPlank();
        Tapes.put(x, WORST);
        x.image();
        long faults = made(x, y -> y.undo() + y.site(), CALLS);
        due.is("no SITE", x.count(1), 0);
        due.holds("FAULTS stay within: " + faults, faults <= MOST_OF_A_RUN);
        System.out.println("bytes of " + CALLS + " SITES " + sites + ", of FAULTS " + faults);
    }
}
