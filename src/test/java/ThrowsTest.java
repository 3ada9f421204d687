import java.util.ArrayList;
import java.util.List;
import java.util.function.Supplier;
import java.util.function.ToLongFunction;

/** Which exception comes first where several apply, and that a call that throws changes nothing. */
public final class ThrowsTest {
    private static final String NO_SUCH = "throws.IndexOutOfBoundsException";
    private static final String OUT_OF_RANGE = "throws.IllegalArgumentException";
    private static final String NOT_NOW = "throws.IllegalStateException";

    public static void main(String[] args) throws ReflectiveOperationException {
        Check.tests(ThrowsTest.class);
    }

    // ---- objects of which something is to be lost

    /** Past days, bookings, refusals, a show rate, and room for more of each. */
    private static Nestedfare busy() {
        Nestedfare x = Given.with(6, 5, 4);
        x.setRate(80);
        x.addProduct(0, 2, 210);
        x.addProduct(0, 1, 140);
        x.addProduct(1, 2, 120);
        x.addProduct(1, 1, 30);
        Given.askOften(x, 0, 2);
        Given.askOften(x, 3, 3);
        x.endDay(90);
        Given.askOften(x, 0, 1);
        x.group(0, 1, 2, 150);
        x.cancel(0);
        x.ask(3);
        x.group(2, 2, 1, 300);
        x.setExpected(1, 2);
        x.setExpected(2, 3);
        return x;
    }

    /** Eight products, and sixty bookings, of which one of three is not cancelled, and none of the last. */
    private static Nestedfare atItsMost() {
        Nestedfare x = Given.withEightProducts();
        for (int i = 0; i < 60; i++) {
            int booking = x.ask(i % 8);
            if (i % 3 != 0 || i > 40) {
                x.cancel(booking);
            }
        }
        return x;
    }

    /** What an object answers to much that may follow; it is spent by that. */
    private static String goesOn(Nestedfare x) {
        StringBuilder all = new StringBuilder(Answers.of(x));
        List<Check.Call> calls = new ArrayList<>();
        for (int booking = 0; booking <= 60; booking += 3) {
            int number = booking;
            calls.add(() -> x.cancel(number));
        }
        calls.add(() -> x.setRate(90));
        for (int p = 0; p <= 8; p++) {
            int product = p;
            calls.add(() -> x.ask(product));
            calls.add(() -> x.setExpected(product, product));
        }
        calls.add(() -> x.group(0, 1, 1, 170));
        calls.add(() -> x.addProduct(0, 2, 77));
        calls.add(() -> x.endDay(95));
        calls.add(() -> x.ask(0));
        calls.add(() -> x.cancel(0));
        for (Check.Call call : calls) {
            all.append(' ').append(Check.outcome(call));
        }
        return all.append(' ').append(Answers.of(x)).toString();
    }

    private static void changesNothing(String what, Supplier<Nestedfare> made, String due, ToLongFunction<Nestedfare> call) {
        Nestedfare x = made.get();
        Check.same(what, Check.outcome(() -> call.applyAsLong(x)), due);
        Check.same(what + ", what follows", goesOn(x), goesOn(made.get()));
    }

    private static long seats(Nestedfare x, int first, int second, int third) {
        x.setSeats(first, second, third);
        return 0;
    }

    // ---- a call that throws changes nothing

    static void promise2ThrowsAndChangesNothing() {
        for (int wrong : Given.outside(0, 10)) {
            changesNothing("first", ThrowsTest::busy, OUT_OF_RANGE, x -> seats(x, wrong, 1, 2));
            changesNothing("second", ThrowsTest::busy, OUT_OF_RANGE, x -> seats(x, 1, wrong, 2));
            changesNothing("third", ThrowsTest::busy, OUT_OF_RANGE, x -> seats(x, 1, 2, wrong));
        }
    }

    static void promise3ThrowsAndChangesNothing() {
        for (int wrong : Given.outside(0, 2)) {
            changesNothing("first", ThrowsTest::busy, NO_SUCH, x -> x.addProduct(wrong, 2, 300));
            changesNothing("last", ThrowsTest::busy, NO_SUCH, x -> x.addProduct(0, wrong, 300));
        }
        for (int wrong : Given.outside(1, 1000)) {
            changesNothing("fare", ThrowsTest::busy, OUT_OF_RANGE, x -> x.addProduct(0, 2, wrong));
        }
        changesNothing("order", ThrowsTest::busy, OUT_OF_RANGE, x -> x.addProduct(2, 1, 300));
        changesNothing("the same", ThrowsTest::busy, NOT_NOW, x -> x.addProduct(0, 2, 210));
        changesNothing("the ninth", ThrowsTest::atItsMost, NOT_NOW, x -> x.addProduct(0, 2, 300));
    }

    static void promise4ThrowsAndChangesNothing() {
        for (int wrong : Given.outside(0, 3)) {
            changesNothing("product", ThrowsTest::busy, NO_SUCH, x -> x.setExpected(wrong, 9));
        }
        for (int wrong : Given.outside(0, 20)) {
            changesNothing("many", ThrowsTest::busy, OUT_OF_RANGE, x -> x.setExpected(1, wrong));
        }
        changesNothing("product 8", ThrowsTest::atItsMost, NO_SUCH, x -> x.setExpected(8, 9));
    }

    static void promise5ThrowsAndChangesNothing() {
        for (int wrong : Given.outside(50, 100)) {
            changesNothing("rate", ThrowsTest::busy, OUT_OF_RANGE, x -> x.setRate(wrong));
        }
    }

    static void promise6ThrowsAndChangesNothing() {
        for (int wrong : Given.outside(0, 3)) {
            changesNothing("product", ThrowsTest::busy, NO_SUCH, x -> x.ask(wrong));
        }
        for (int product = 0; product < 8; product++) {
            int any = product;
            changesNothing("sixty bookings", ThrowsTest::atItsMost, NOT_NOW, x -> x.ask(any));
        }
        changesNothing("product 8", ThrowsTest::atItsMost, NO_SUCH, x -> x.ask(8));
    }

    static void promise7ThrowsAndChangesNothing() {
        for (int wrong : Given.outside(0, 2)) {
            changesNothing("first", ThrowsTest::busy, NO_SUCH, x -> x.group(wrong, 2, 1, 3000));
            changesNothing("last", ThrowsTest::busy, NO_SUCH, x -> x.group(0, wrong, 1, 3000));
        }
        for (int wrong : Given.outside(1, 10)) {
            changesNothing("seats", ThrowsTest::busy, OUT_OF_RANGE, x -> x.group(0, 2, wrong, 3000));
        }
        for (int wrong : Given.outside(1, 3000)) {
            changesNothing("fare", ThrowsTest::busy, OUT_OF_RANGE, x -> x.group(0, 2, 1, wrong));
        }
        changesNothing("order", ThrowsTest::busy, OUT_OF_RANGE, x -> x.group(1, 0, 1, 3000));
        changesNothing("sixty bookings", ThrowsTest::atItsMost, NOT_NOW, x -> x.group(0, 2, 1, 3000));
        changesNothing("sixty bookings, full", ThrowsTest::atItsMost, NOT_NOW, x -> x.group(0, 2, 10, 3000));
    }

    static void promise8ThrowsAndChangesNothing() {
        for (int wrong : Given.outside(0, 3)) {
            changesNothing("booking", ThrowsTest::busy, NO_SUCH, x -> x.cancel(wrong));
        }
        changesNothing("a cancelled one", ThrowsTest::busy, NOT_NOW, x -> x.cancel(0));
        changesNothing("a cancelled one of sixty", ThrowsTest::atItsMost, NOT_NOW, x -> x.cancel(59));
        changesNothing("a sixty-first", ThrowsTest::atItsMost, NO_SUCH, x -> x.cancel(60));
    }

    static void promise9ThrowsAndChangesNothing() {
        for (int wrong : Given.outside(0, 100)) {
            changesNothing("shows", ThrowsTest::busy, OUT_OF_RANGE, x -> x.endDay(wrong));
        }
    }

    static void promises12To22ThrowAndChangeNothing() {
        for (int wrong : Given.outside(0, 2)) {
            changesNothing("booked", ThrowsTest::busy, NO_SUCH, x -> x.booked(wrong));
            changesNothing("authorised", ThrowsTest::busy, NO_SUCH, x -> x.authorised(wrong));
            changesNothing("protectedSeats", ThrowsTest::busy, NO_SUCH, x -> x.protectedSeats(wrong, 5));
            changesNothing("bid", ThrowsTest::busy, NO_SUCH, x -> x.bid(wrong));
            changesNothing("displaced", ThrowsTest::busy, NO_SUCH, x -> x.displaced(wrong, 2, 1));
        }
        changesNothing("protectedSeats, fare", ThrowsTest::busy, OUT_OF_RANGE, x -> x.protectedSeats(0, 0));
        changesNothing("displaced, seats", ThrowsTest::busy, OUT_OF_RANGE, x -> x.displaced(0, 2, 0));
        changesNothing("expected", ThrowsTest::busy, NO_SUCH, x -> x.expected(4));
        changesNothing("average", ThrowsTest::busy, NO_SUCH, x -> (long) x.average(4));
        changesNothing("asked", ThrowsTest::busy, NO_SUCH, x -> x.asked(4));
        changesNothing("refused", ThrowsTest::busy, OUT_OF_RANGE, x -> x.refused(0));
    }

    static void promises10To24QuestionsChangeNothing() {
        Nestedfare x = busy();
        Answers.of(x);
        Check.same("all questions once more", goesOn(x), goesOn(busy()));
    }

    // ---- which exception comes first

    static void promise3NoSuchLegFirst() {
        Nestedfare x = Given.withEightProducts();
        Check.noSuch("and a fare too small", () -> x.addProduct(3, 3, 0));
        Check.noSuch("and a fare too great", () -> x.addProduct(-1, 0, 1001));
        Check.noSuch("and out of order, the first", () -> x.addProduct(3, 2, 5));
        Check.noSuch("and out of order, the last", () -> x.addProduct(0, -1, 5));
        Check.noSuch("and eight products", () -> x.addProduct(0, 3, 500));
    }

    static void promise3OutOfRangeBeforeTheState() {
        Nestedfare x = Given.withEightProducts();
        Check.outOfRange("a fare too small, and eight", () -> x.addProduct(0, 0, 0));
        Check.outOfRange("a fare too great, and eight", () -> x.addProduct(0, 0, 1001));
        Check.outOfRange("out of order, and eight", () -> x.addProduct(1, 0, 500));
        Check.notNow("eight, and the same", () -> x.addProduct(0, 0, 1));
        Check.notNow("eight alone", () -> x.addProduct(0, 0, 1000));
    }

    static void promise4NoSuchProductFirst() {
        Nestedfare x = Given.withEightProducts();
        Check.noSuch("too few", () -> x.setExpected(8, -1));
        Check.noSuch("too many", () -> x.setExpected(-1, 21));
        Check.noSuch("none yet", () -> new Nestedfare().setExpected(0, 21));
    }

    static void promise6NoSuchProductFirst() {
        Nestedfare x = Given.withBookings(60);
        Check.noSuch("the next, and sixty bookings", () -> x.ask(1));
        Check.noSuch("the one ahead, and sixty bookings", () -> x.ask(-1));
        Check.notNow("sixty bookings alone", () -> x.ask(0));
    }

    static void promise7NoSuchLegFirst() {
        Nestedfare x = Given.withBookings(60);
        Check.noSuch("and too few seats", () -> x.group(3, 3, 0, 1));
        Check.noSuch("and too many seats", () -> x.group(-1, 0, 11, 1));
        Check.noSuch("and a fare too small", () -> x.group(0, 3, 1, 0));
        Check.noSuch("and a fare too great", () -> x.group(0, 3, 1, 3001));
        Check.noSuch("and out of order, the first", () -> x.group(3, 2, 1, 1));
        Check.noSuch("and out of order, the last", () -> x.group(0, -1, 1, 1));
        Check.noSuch("and sixty bookings", () -> x.group(0, 3, 1, 1));
    }

    static void promise7OutOfRangeBeforeTheState() {
        Nestedfare x = Given.withBookings(60);
        Check.outOfRange("too few seats, and sixty", () -> x.group(0, 0, 0, 1));
        Check.outOfRange("too many seats, and sixty", () -> x.group(0, 0, 11, 1));
        Check.outOfRange("a fare too small, and sixty", () -> x.group(0, 0, 1, 0));
        Check.outOfRange("a fare too great, and sixty", () -> x.group(0, 0, 1, 3001));
        Check.outOfRange("out of order, and sixty", () -> x.group(2, 1, 1, 1));
        Check.notNow("sixty alone", () -> x.group(0, 0, 1, 1));
    }

    static void promise6And7TheStateBeforeARefusal() {
        Nestedfare x = Given.withBookings(60);
        x.setSeats(0, 0, 0);
        Check.notNow("a passenger who would be refused", () -> x.ask(0));
        Check.notNow("a group that would be refused", () -> x.group(0, 0, 1, 1));
        Check.same("nobody refused", x.refused(Nestedfare.FULL), 0);
        Check.same("not counted", x.asked(0), 60);
    }

    static void promise6And7OutOfRangeBeforeARefusal() {
        Nestedfare x = new Nestedfare();
        Check.noSuch("no product, no seats", () -> x.ask(0));
        Check.noSuch("no leg, no seats", () -> x.group(0, 3, 1, 1));
        Check.outOfRange("too many for any leg", () -> x.group(0, 0, 11, 1));
        Check.same("nobody refused", x.refused(Nestedfare.FULL), 0);
    }

    static void promise14NoSuchLegFirst() {
        Nestedfare x = new Nestedfare();
        Check.noSuch("a fare too small", () -> x.protectedSeats(3, 0));
        Check.noSuch("a fare too great", () -> x.protectedSeats(-1, 1001));
    }

    static void promise18NoSuchLegFirst() {
        Nestedfare x = new Nestedfare();
        Check.noSuch("too few seats", () -> x.displaced(3, 3, 0));
        Check.noSuch("too many seats", () -> x.displaced(-1, 0, 11));
        Check.noSuch("out of order, the first", () -> x.displaced(3, 2, 1));
        Check.noSuch("out of order, the last", () -> x.displaced(0, -1, 1));
    }

    static void promise18OutOfRangeBeforeFull() {
        Nestedfare x = new Nestedfare();
        Check.outOfRange("too few seats", () -> x.displaced(0, 0, 0));
        Check.outOfRange("too many seats", () -> x.displaced(0, 0, 11));
        Check.outOfRange("out of order", () -> x.displaced(1, 0, 1));
    }
}
