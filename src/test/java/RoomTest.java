import com.sun.management.ThreadMXBean;
import java.lang.management.ManagementFactory;
import java.util.function.IntConsumer;

/** What the calls of a run make (LANGUAGE.md, rule 12): a booking each where one is booked, and else nothing. */
public final class RoomTest {
    private static final ThreadMXBean ROOM = (ThreadMXBean) ManagementFactory.getThreadMXBean();
    private static final int CALLS = 500;
    private static final int TIMES = 5;
    /** What the machine itself may make at times; the smallest object for each call would be eight times as much. */
    private static final int SPARE_BYTES = 2 * CALLS;
    private static final int BOOKING_BYTES = 40;
    private static final int PRODUCT_BYTES = 160;
    private static final int OBJECT_BYTES = 8000;

    public static void main(String[] args) throws ReflectiveOperationException {
        Check.tests(RoomTest.class);
    }

    /** The bytes of so many calls, the least of some times: at the first the machine makes things of its own. */
    private static long bytes(int calls, IntConsumer call) {
        long least = Long.MAX_VALUE;
        for (int time = 0; time < TIMES; time++) {
            long before = ROOM.getCurrentThreadAllocatedBytes();
            for (int i = 0; i < calls; i++) {
                call.accept(i);
            }
            least = Math.min(least, ROOM.getCurrentThreadAllocatedBytes() - before);
        }
        return least;
    }

    private static void nothing(String what, long bytes) {
        atMost(what, bytes, SPARE_BYTES);
    }

    private static void atMost(String what, long bytes, long most) {
        Check.same(what + ", " + bytes + " bytes, at most " + most, String.valueOf(bytes <= most), "true");
    }

    /** Ten seats a leg and eight products, for each of which twenty are expected. */
    private static Nestedfare wanted() {
        Nestedfare x = Given.with(10, 10, 10);
        for (int p = 0; p < 8; p++) {
            x.addProduct(p % 3, p < 4 ? 2 : p % 3, 100 + p);
            x.setExpected(p, 20);
        }
        return x;
    }

    static void rule12AnObject() {
        atMost("a new object", bytes(1, i -> new Nestedfare()), SPARE_BYTES + OBJECT_BYTES);
    }

    static void rule12Questions() {
        Nestedfare x = wanted();
        nothing("worth", bytes(CALLS, i -> x.worth()));
        nothing("worthByTable", bytes(CALLS, i -> x.worthByTable()));
        nothing("bid", bytes(CALLS, i -> x.bid(i % 3)));
        nothing("displaced", bytes(CALLS, i -> x.displaced(0, 2, 1 + i % 10)));
        nothing("protectedSeats", bytes(CALLS, i -> x.protectedSeats(i % 3, 1)));
        nothing("booked", bytes(CALLS, i -> x.booked(i % 3)));
        nothing("authorised", bytes(CALLS, i -> x.authorised(i % 3)));
        nothing("expected", bytes(CALLS, i -> x.expected(i % 8)));
        nothing("average", bytes(CALLS, i -> x.average(i % 8)));
        nothing("asked", bytes(CALLS, i -> x.asked(i % 8)));
        nothing("refused", bytes(CALLS, i -> x.refused(-1 - i % 3)));
        nothing("revenue", bytes(CALLS, i -> x.revenue()));
        nothing("earned", bytes(CALLS, i -> x.earned()));
        nothing("products", bytes(CALLS, i -> x.products()));
        nothing("days", bytes(CALLS, i -> x.days()));
    }

    static void rule12Changes() {
        Nestedfare x = wanted();
        nothing("setSeats", bytes(CALLS, i -> x.setSeats(i % 11, 10, 10)));
        nothing("setExpected", bytes(CALLS, i -> x.setExpected(i % 8, i % 21)));
        nothing("setRate", bytes(CALLS, i -> x.setRate(50 + i % 51)));
        nothing("endDay", bytes(CALLS, i -> x.endDay(i % 101)));
        x.setSeats(0, 0, 0);
        nothing("ask, refused", bytes(CALLS, i -> x.ask(i % 8)));
        nothing("group, refused", bytes(CALLS, i -> x.group(0, 2, 1, 1)));
    }

    static void rule12Bookings() {
        Nestedfare x = Given.with(10, 10, 10);
        x.addProduct(0, 2, 100);
        atMost("ask, cancel and endDay", bytes(CALLS, i -> {
            x.ask(0);
            x.cancel(0);
            x.endDay(100);
        }), SPARE_BYTES + CALLS * BOOKING_BYTES);
        atMost("group, cancel and endDay", bytes(CALLS, i -> {
            x.group(0, 2, 10, 3000);
            x.cancel(0);
            x.endDay(100);
        }), SPARE_BYTES + CALLS * BOOKING_BYTES);
    }

    static void rule12Products() {
        atMost("an object with eight products", bytes(1, i -> wanted()), SPARE_BYTES + OBJECT_BYTES + 8 * PRODUCT_BYTES);
    }
}
