import com.sun.management.ThreadMXBean;
import java.lang.management.ManagementFactory;

/**
 * All calls of one run live in one room, and nothing in it is given back: the dearest runs of 512 calls are made,
 * and what they take is held against a small part of the room.
 */
public final class RoomTest {
    private static final int CALLS = 512;
    /** The room has 7.3 million fields and elements; at four bytes each this is less than a fortieth of it. */
    private static final long MOST_BYTES = 600_000;
    /** What a call that only asks, or is refused, may take: nothing. A little is left for the machine itself. */
    private static final long MOST_BYTES_OF_ASKS = 4_000;

    private static int wrong = 0;

    public static void main(String[] args) {
        ThreadMXBean threads = (ThreadMXBean) ManagementFactory.getThreadMXBean();
        long me = Thread.currentThread().getId();
        for (int kind = 0; kind < 4; kind++) {
            // Once ahead, so that classes that are loaded on the way are not counted.
            run(kind);
            long before = threads.getThreadAllocatedBytes(me);
            run(kind);
            expect("run of kind " + kind, threads.getThreadAllocatedBytes(me) - before, MOST_BYTES);
        }
        CinnamonPeelers x = heap(12);
        asks(x);
        long before = threads.getThreadAllocatedBytes(me);
        asks(x);
        expect("calls that make nothing", threads.getThreadAllocatedBytes(me) - before, MOST_BYTES_OF_ASKS);
        System.out.println(wrong == 0 ? "all runs keep to their room" : wrong + " runs take too much room");
        if (wrong != 0) {
            System.exit(1);
        }
    }

    private static void expect(String what, long bytes, long most) {
        if (bytes > most) {
            wrong++;
            System.out.println(what + ": " + bytes + " bytes, " + most + " at most are due");
        }
    }

    private static void run(int kind) {
        CinnamonPeelers x = kind == 3 ? new CinnamonPeelers() : heap(kind == 1 ? 12 : 30);
        for (int i = kind == 3 ? 0 : 33; i < CALLS; i++) {
            if (kind == 0) {
                x.could(0);
            } else if (kind == 1) {
                x.most(0);
            } else if (kind == 2) {
                x.set(99 - i % 2, 9);
                x.join(0);
            } else {
                everything(x, i);
            }
        }
    }

    /** As many things as can be, each made by one call. */
    private static void everything(CinnamonPeelers x, int i) {
        if (i < 8) {
            x.family(20);
        } else if (i < 20) {
            x.garden(-1);
        } else if (i < 220) {
            x.cut(0, 0, 42, 1, 9);
        } else if (i < 221) {
            x.pass(3);
        } else if (i < 341) {
            x.join(0);
        } else if (i < 365) {
            x.bale(0, 1);
        } else {
            x.traced(0, 0, 3000);
        }
    }

    /** A family with dry strips of one length, four of which make a quill. */
    private static CinnamonPeelers heap(int strips) {
        CinnamonPeelers x = new CinnamonPeelers();
        x.family(0);
        x.garden(0);
        for (int i = 0; i < strips; i++) {
            x.cut(0, 0, 12, 1, i % 10);
        }
        x.pass(3);
        return x;
    }

    private static void asks(CinnamonPeelers x) {
        for (int i = 0; i < 20; i++) {
            x.could(0);
            x.most(0);
            x.most(1);
            x.ready(0);
            x.strip(i, 6);
            x.dryOn(i);
            x.quill(0, 1);
            x.baleOf(0, 1);
            x.about(0, 5);
            x.chest(0, 1);
            x.share(0, 0);
            x.traced(0, 0, i);
            x.count(i);
            x.trouble();
            x.set(0, 0);
            x.price(0, 0);
            x.rain(0, true);
            x.pass(0);
            x.cut(1, 0, 1, 1, 1);
            x.bale(0, 1);
            x.family(21);
            x.garden(9);
            x.join(9);
        }
    }
}
