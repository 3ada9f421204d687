/** Each argument at the least and the greatest that it may be, and next to them outside; nothing yet, and the most. */
public final class RangesTest {
    public static void main(String[] args) throws ReflectiveOperationException {
        Check.tests(RangesTest.class);
    }

    // ---- promise 1

    static void promise1NothingCanBeAskedForYet() {
        Nestedfare x = new Nestedfare();
        Check.noSuch("ask", () -> x.ask(0));
        Check.noSuch("setExpected", () -> x.setExpected(0, 0));
        Check.noSuch("expected", () -> x.expected(0));
        Check.noSuch("average", () -> (long) x.average(0));
        Check.noSuch("asked", () -> x.asked(0));
        Check.noSuch("cancel", () -> x.cancel(0));
    }

    static void promise1NoSeatsAtAll() {
        Nestedfare x = new Nestedfare();
        for (int first = 0; first < 3; first++) {
            for (int last = first; last < 3; last++) {
                Check.same("displaced by one", x.displaced(first, last, 1), Nestedfare.FULL);
                Check.same("displaced by ten", x.displaced(first, last, 10), Nestedfare.FULL);
            }
        }
        Check.same("group", x.group(0, 2, 1, 3000), Nestedfare.FULL);
        x.addProduct(0, 2, 1);
        Check.same("the first product's number", x.addProduct(0, 2, 1000), 1);
        Check.same("ask", x.ask(1), Nestedfare.FULL);
        x.setRate(50);
        Check.same("no seats are authorised of none", x.authorised(0), 0);
    }

    static void promise1AnEmptyDayEnds() {
        Nestedfare x = new Nestedfare();
        Check.same("none denied", x.endDay(100), 0);
        Check.same("nothing earned", x.earned(), 0);
        Check.same("a day", x.days(), 1);
        Check.same("no products", x.products(), 0);
        Check.same("nothing protected", x.protectedSeats(0, 1), 0);
    }

    static void promise1TwoObjectsHaveNothingInCommon() {
        Nestedfare x = Given.with(4, 5, 6);
        Nestedfare y = new Nestedfare();
        String before = Answers.of(y);
        x.addProduct(0, 2, 100);
        x.setRate(50);
        Given.askOften(x, 0, 7);
        x.endDay(100);
        x.setExpected(0, 9);
        x.group(0, 1, 2, 3000);
        x.group(0, 0, 1, 1);
        Check.same("the other one is still new", Answers.of(y), before);
        Check.noSuch("no booking of the first one", () -> y.cancel(0));
        Check.same("the rate of the other one", y.setRate(100), 100);
        String used = Answers.of(x);
        y.setSeats(1, 1, 1);
        y.addProduct(1, 1, 7);
        y.ask(0);
        y.ask(0);
        y.cancel(0);
        Check.same("the first one is as it was", Answers.of(x), used);
        Check.same("its booking too", x.cancel(0), 2);
        y.endDay(0);
        Check.same("its day too", x.days(), 1);
    }

    // ---- promise 2

    static void promise2SeatsLeast() {
        Nestedfare x = Given.with(5, 6, 7);
        x.setSeats(0, 0, 0);
        for (int leg = 0; leg < 3; leg++) {
            Check.same("seats", x.authorised(leg), 0);
        }
    }

    static void promise2SeatsGreatest() {
        Nestedfare x = Given.with(10, 10, 10);
        for (int leg = 0; leg < 3; leg++) {
            Check.same("seats", x.authorised(leg), 10);
        }
    }

    static void promise2EachLegItsOwn() {
        Nestedfare x = Given.with(0, 1, 10);
        Check.same("leg 0", x.authorised(0), 0);
        Check.same("leg 1", x.authorised(1), 1);
        Check.same("leg 2", x.authorised(2), 10);
        x.setSeats(9, 10, 0);
        Check.same("leg 0 anew", x.authorised(0), 9);
        Check.same("leg 1 anew", x.authorised(1), 10);
        Check.same("leg 2 anew", x.authorised(2), 0);
    }

    static void promise2SeatsOutside() {
        Nestedfare x = Given.with(1, 2, 3);
        for (int wrong : Given.outside(0, 10)) {
            Check.outOfRange("first", () -> { x.setSeats(wrong, 0, 10); return 0; });
            Check.outOfRange("second", () -> { x.setSeats(10, wrong, 0); return 0; });
            Check.outOfRange("third", () -> { x.setSeats(0, 10, wrong); return 0; });
            Check.outOfRange("all", () -> { x.setSeats(wrong, wrong, wrong); return 0; });
        }
        for (int leg = 0; leg < 3; leg++) {
            Check.same("seats as before", x.authorised(leg), 1 + leg);
        }
    }

    static void promise2BookingsStayWithoutSeats() {
        Nestedfare x = Given.with(10, 10, 10);
        x.group(0, 2, 10, 2);
        x.setSeats(0, 0, 0);
        for (int leg = 0; leg < 3; leg++) {
            Check.same("booked", x.booked(leg), 10);
        }
        Check.same("revenue", x.revenue(), 20);
        Check.same("cancelled", x.cancel(0), 10);
    }

    // ---- promise 3

    static void promise3EachPairOfLegsInOrder() {
        for (int first = 0; first < 3; first++) {
            for (int last = first; last < 3; last++) {
                Nestedfare x = Given.with(1, 1, 1);
                Check.same("number", x.addProduct(first, last, 5), 0);
                x.ask(0);
                for (int leg = 0; leg < 3; leg++) {
                    Check.same("leg " + leg + " of " + first + last, x.booked(leg), leg >= first && leg <= last ? 1 : 0);
                }
            }
        }
    }

    static void promise3EachPairOfLegsOutOfOrder() {
        Nestedfare x = new Nestedfare();
        Check.outOfRange("1, 0", () -> x.addProduct(1, 0, 5));
        Check.outOfRange("2, 0", () -> x.addProduct(2, 0, 5));
        Check.outOfRange("2, 1", () -> x.addProduct(2, 1, 5));
        Check.same("none added", x.products(), 0);
    }

    static void promise3NoSuchLeg() {
        Nestedfare x = new Nestedfare();
        for (int wrong : Given.outside(0, 2)) {
            Check.noSuch("first", () -> x.addProduct(wrong, 2, 5));
            Check.noSuch("last", () -> x.addProduct(0, wrong, 5));
            Check.noSuch("both", () -> x.addProduct(wrong, wrong, 5));
        }
        Check.same("none added", x.products(), 0);
    }

    static void promise3FareLeastAndGreatest() {
        Nestedfare x = Given.with(2, 0, 0);
        x.addProduct(0, 0, 1);
        x.addProduct(0, 0, 1000);
        x.ask(0);
        Check.same("the least", x.revenue(), 1);
        x.ask(1);
        Check.same("the greatest too", x.revenue(), 1001);
    }

    static void promise3FareOutside() {
        Nestedfare x = new Nestedfare();
        for (int wrong : Given.outside(1, 1000)) {
            Check.outOfRange("fare", () -> x.addProduct(0, 2, wrong));
        }
        Check.same("none added", x.products(), 0);
    }

    static void promise3TheEighthAndTheNinth() {
        Nestedfare x = new Nestedfare();
        for (int p = 0; p < 7; p++) {
            x.addProduct(0, 0, 1 + p);
        }
        Check.same("the eighth", x.addProduct(0, 0, 8), 7);
        Check.notNow("the ninth", () -> x.addProduct(0, 0, 9));
        Check.same("eight", x.products(), 8);
        x.endDay(0);
        Check.notNow("the ninth on another day", () -> x.addProduct(0, 0, 9));
    }

    static void promise3TheSameAsAnyOther() {
        Nestedfare x = new Nestedfare();
        for (int p = 0; p < 7; p++) {
            x.addProduct(0, 1, 1 + p);
            for (int other = 0; other <= p; other++) {
                int fare = 1 + other;
                Check.notNow("the same as " + other, () -> x.addProduct(0, 1, fare));
            }
            Check.same("as many as were", x.products(), p + 1);
        }
        x.endDay(0);
        Check.notNow("the same on another day", () -> x.addProduct(0, 1, 1));
    }

    static void promise3OneThingDiffers() {
        Nestedfare x = new Nestedfare();
        x.addProduct(1, 1, 500);
        Check.same("another first", x.addProduct(0, 1, 500), 1);
        Check.same("another last", x.addProduct(1, 2, 500), 2);
        Check.same("a fare of one less", x.addProduct(1, 1, 499), 3);
        Check.same("a fare of one more", x.addProduct(1, 1, 501), 4);
    }

    static void promise3ANewOneBeginsWithNothing() {
        Nestedfare x = Given.with(5, 5, 5);
        x.addProduct(0, 0, 20);
        x.setExpected(0, 4);
        Given.askOften(x, 0, 3);
        x.addProduct(0, 0, 30);
        Check.same("expected", x.expected(1), 0);
        Check.same("asked", x.asked(1), 0);
        Check.sameFloat("average", x.average(1), 0.0f);
    }

    // ---- promise 4

    static void promise4ManyLeastAndGreatest() {
        Nestedfare x = Given.with(10, 10, 10);
        x.addProduct(0, 0, 3);
        Check.same("0 before", x.setExpected(0, 20), 0);
        Check.same("the greatest", x.expected(0), 20);
        Check.same("20 before", x.setExpected(0, 0), 20);
        Check.same("the least", x.expected(0), 0);
        Check.same("the least before", x.setExpected(0, 0), 0);
    }

    static void promise4ManyOutside() {
        Nestedfare x = Given.with(10, 10, 10);
        x.addProduct(0, 0, 3);
        x.setExpected(0, 7);
        for (int wrong : Given.outside(0, 20)) {
            Check.outOfRange("many", () -> x.setExpected(0, wrong));
        }
        Check.same("as before", x.setExpected(0, 8), 7);
    }

    static void promise4TheLastProductAndTheNext() {
        Nestedfare x = Given.with(10, 10, 10);
        x.addProduct(0, 0, 3);
        Check.noSuch("the next after one", () -> x.setExpected(1, 5));
        Nestedfare eight = Given.withEightProducts();
        eight.setExpected(7, 5);
        Check.same("the last of eight", eight.expected(7), 5);
        Check.same("not the one ahead", eight.expected(6), 0);
        Check.noSuch("the next after eight", () -> eight.setExpected(8, 5));
        Check.noSuch("the one ahead of all", () -> eight.setExpected(-1, 5));
    }

    // ---- promise 5

    static void promise5RateLeastAndGreatest() {
        Nestedfare x = Given.with(10, 10, 10);
        Check.same("100 before", x.setRate(50), 100);
        Check.same("the least", x.authorised(1), 15);
        Check.same("50 before", x.setRate(100), 50);
        Check.same("the greatest", x.authorised(1), 10);
    }

    static void promise5RateOutside() {
        Nestedfare x = Given.with(10, 10, 10);
        x.setRate(70);
        for (int wrong : Given.outside(50, 100)) {
            Check.outOfRange("rate", () -> x.setRate(wrong));
        }
        Check.same("as before", x.setRate(71), 70);
    }

    // ---- promise 6

    static void promise6TheLastProductAndTheNext() {
        Nestedfare x = Given.with(10, 10, 10);
        x.addProduct(0, 0, 3);
        Check.noSuch("the next after one", () -> x.ask(1));
        Nestedfare eight = Given.withEightProducts();
        Check.same("the first of eight", eight.ask(0), 0);
        Check.same("the last of eight", eight.ask(7), 1);
        Check.same("their fares", eight.revenue(), 1 + 8);
        Check.noSuch("the next after eight", () -> eight.ask(8));
        Check.noSuch("the one ahead of all", () -> eight.ask(-1));
    }

    static void promise6TheSixtiethBookingAndTheNext() {
        Nestedfare x = Given.withBookings(59);
        Check.same("the sixtieth", x.ask(0), 59);
        Check.notNow("the next", () -> x.ask(0));
        Check.same("not counted", x.asked(0), 60);
        x.cancel(59);
        Check.notNow("the next, though all are cancelled", () -> x.ask(0));
        x.endDay(100);
        Check.same("the first of a day", x.ask(0), 0);
    }

    static void promise6RefusedOnesAreNoBookings() {
        Nestedfare x = Given.with(1, 0, 0);
        x.addProduct(0, 0, 5);
        x.ask(0);
        Given.askOften(x, 0, 70);
        Check.same("all counted", x.asked(0), 71);
        x.cancel(0);
        Check.same("the second booking", x.ask(0), 1);
    }

    // ---- promise 7

    static void promise7EachPairOfLegsInOrder() {
        for (int first = 0; first < 3; first++) {
            for (int last = first; last < 3; last++) {
                Nestedfare x = Given.with(3, 3, 3);
                Check.same("number", x.group(first, last, 3, 5), 0);
                for (int leg = 0; leg < 3; leg++) {
                    Check.same("leg " + leg + " of " + first + last, x.booked(leg), leg >= first && leg <= last ? 3 : 0);
                }
                Check.same("once for all legs", x.revenue(), 15);
            }
        }
    }

    static void promise7EachPairOfLegsOutOfOrder() {
        Nestedfare x = Given.with(3, 3, 3);
        Check.outOfRange("1, 0", () -> x.group(1, 0, 1, 1));
        Check.outOfRange("2, 0", () -> x.group(2, 0, 1, 1));
        Check.outOfRange("2, 1", () -> x.group(2, 1, 1, 1));
        Check.same("none booked", x.revenue(), 0);
    }

    static void promise7NoSuchLeg() {
        Nestedfare x = Given.with(3, 3, 3);
        for (int wrong : Given.outside(0, 2)) {
            Check.noSuch("first", () -> x.group(wrong, 2, 1, 1));
            Check.noSuch("last", () -> x.group(0, wrong, 1, 1));
            Check.noSuch("both", () -> x.group(wrong, wrong, 1, 1));
        }
        Check.same("none booked", x.revenue(), 0);
    }

    static void promise7SeatsLeastAndGreatest() {
        Nestedfare x = Given.with(10, 10, 1);
        Check.same("the least", x.group(2, 2, 1, 7), 0);
        Check.same("one seat", x.booked(2), 1);
        Check.same("the greatest", x.group(0, 1, 10, 7), 1);
        Check.same("ten seats", x.booked(1), 10);
        Check.same("seven for each", x.revenue(), 77);
    }

    static void promise7SeatsOutside() {
        Nestedfare x = Given.with(10, 10, 10);
        for (int wrong : Given.outside(1, 10)) {
            Check.outOfRange("seats", () -> x.group(0, 2, wrong, 5));
        }
        Check.same("none booked", x.revenue(), 0);
        Check.same("none refused", x.refused(Nestedfare.FULL), 0);
    }

    static void promise7FareLeastAndGreatest() {
        Nestedfare x = Given.with(10, 10, 10);
        Check.same("the least", x.group(0, 0, 10, 1), 0);
        Check.same("ten of it", x.revenue(), 10);
        Check.same("the greatest", x.group(1, 2, 10, 3000), 1);
        Check.same("ten of it too", x.revenue(), 30010);
    }

    static void promise7FareOutside() {
        Nestedfare x = Given.with(10, 10, 10);
        for (int wrong : Given.outside(1, 3000)) {
            Check.outOfRange("fare", () -> x.group(0, 2, 1, wrong));
        }
        Check.same("none booked", x.revenue(), 0);
        Check.same("none refused", x.refused(Nestedfare.BELOW), 0);
    }

    static void promise7TheSixtiethBookingAndTheNext() {
        Nestedfare x = Given.withBookings(59);
        Check.same("the sixtieth", x.group(0, 2, 9, 1), 59);
        Check.notNow("the next", () -> x.group(0, 0, 1, 1));
        Check.notNow("the next that would be full", () -> x.group(0, 0, 10, 1));
        Check.same("none refused", x.refused(Nestedfare.FULL), 0);
        Check.same("a passenger and nine", x.booked(0), 10);
        x.endDay(100);
        Check.same("the first of a day", x.group(0, 2, 10, 300), 0);
    }

    static void promise7PassengersAndGroupsAreNumberedTogether() {
        Nestedfare x = Given.with(10, 10, 10);
        x.addProduct(0, 0, 10);
        for (int i = 0; i < 60; i += 2) {
            Check.same("a passenger", x.ask(0), i);
            Check.same("a group", x.group(1, 2, 4, 1), i + 1);
            Check.same("a passenger's seat", x.cancel(i), 1);
            Check.same("a group's seats", x.cancel(i + 1), 4);
        }
        Check.notNow("a passenger more", () -> x.ask(0));
        Check.notNow("a group more", () -> x.group(0, 0, 1, 1));
    }

    // ---- promise 8

    static void promise8NoneYet() {
        Nestedfare x = Given.withBookings(0);
        Check.noSuch("booking 0", () -> x.cancel(0));
        Check.noSuch("booking -1", () -> x.cancel(-1));
    }

    static void promise8TheLastBookingAndTheNext() {
        Nestedfare x = Given.withBookings(3);
        Check.noSuch("the next", () -> x.cancel(3));
        Check.same("the last", x.cancel(2), 1);
        Check.noSuch("the one ahead of all", () -> x.cancel(-1));
    }

    static void promise8TheSixtiethBookingAndTheNext() {
        Nestedfare x = Given.withBookings(60);
        Check.noSuch("a sixty-first", () -> x.cancel(60));
        Check.same("the sixtieth", x.cancel(59), 1);
        Check.same("nobody booked", x.booked(0), 0);
        Check.notNow("the sixtieth twice", () -> x.cancel(59));
        Check.notNow("the first twice", () -> x.cancel(0));
    }

    static void promise8SeatsLeastAndGreatest() {
        Nestedfare x = Given.with(10, 1, 10);
        x.group(0, 0, 10, 1);
        x.group(0, 0, 1, 1);
        x.group(1, 2, 1, 1);
        Check.same("ten", x.cancel(0), 10);
        Check.same("one, the refused group has no number", x.cancel(1), 1);
        for (int leg = 0; leg < 3; leg++) {
            Check.same("nothing booked", x.booked(leg), 0);
        }
    }

    static void promise8TheSeatIsFreeAgain() {
        Nestedfare x = Given.with(1, 1, 1);
        x.addProduct(0, 2, 5);
        x.ask(0);
        Check.same("full", x.ask(0), Nestedfare.FULL);
        x.cancel(0);
        Check.same("free", x.ask(0), 1);
        Check.notNow("the cancelled one stays so", () -> x.cancel(0));
    }

    static void promise8NoBookingOfYesterday() {
        Nestedfare x = Given.withBookings(60);
        x.endDay(100);
        Check.noSuch("the first", () -> x.cancel(0));
        Check.noSuch("the last", () -> x.cancel(59));
        x.ask(0);
        Check.noSuch("the second", () -> x.cancel(1));
        Check.same("today's first", x.cancel(0), 1);
    }

    // ---- promise 9

    static void promise9ShowsLeastAndGreatest() {
        Nestedfare x = Given.with(3, 0, 0);
        x.group(0, 0, 3, 1);
        x.setSeats(0, 0, 0);
        Check.same("none of a hundred", x.endDay(0), 0);
        x.setSeats(3, 0, 0);
        x.group(0, 0, 3, 1);
        x.setSeats(0, 0, 0);
        Check.same("all", x.endDay(100), 3);
    }

    static void promise9ShowsOutside() {
        Nestedfare x = Given.withBookings(1);
        for (int wrong : Given.outside(0, 100)) {
            Check.outOfRange("shows", () -> x.endDay(wrong));
        }
        Check.same("no day has ended", x.days(), 0);
        Check.same("nothing is earned", x.earned(), 0);
        Check.same("the booking stays", x.cancel(0), 1);
        Check.same("the one who asked too", x.asked(0), 1);
    }

    // ---- promises 10 and 11

    static void promise10NoneAndEight() {
        Check.same("none", new Nestedfare().products(), 0);
        Check.same("eight", Given.withEightProducts().products(), 8);
    }

    static void promise10OneThatWasNotAddedDoesNotCount() {
        Nestedfare x = Given.withBookings(0);
        Check.notNow("twice", () -> x.addProduct(0, 2, 10));
        Check.same("one", x.products(), 1);
    }

    static void promise11NoneAndMany() {
        Nestedfare x = new Nestedfare();
        Check.same("none", x.days(), 0);
        for (int day = 1; day <= 400; day++) {
            x.endDay(day % 101);
        }
        Check.same("many", x.days(), 400);
    }

    // ---- promises 12, 13, 14 and 17: the legs

    static void promise12LegOutside() {
        Nestedfare x = Given.with(10, 10, 10);
        for (int wrong : Given.outside(0, 2)) {
            Check.noSuch("leg", () -> x.booked(wrong));
        }
    }

    static void promise12FirstAndLastLeg() {
        Nestedfare x = Given.with(10, 10, 10);
        x.group(0, 0, 10, 1);
        x.group(2, 2, 1, 1);
        Check.same("leg 0", x.booked(0), 10);
        Check.same("leg 1", x.booked(1), 0);
        Check.same("leg 2", x.booked(2), 1);
    }

    static void promise12TheMostThatCanBeBooked() {
        Nestedfare x = Given.with(10, 10, 10);
        x.setRate(50);
        x.addProduct(0, 2, 1);
        Given.askOften(x, 0, 20);
        for (int leg = 0; leg < 3; leg++) {
            Check.same("15", x.booked(leg), 15);
        }
    }

    static void promise13LegOutside() {
        Nestedfare x = Given.with(10, 10, 10);
        for (int wrong : Given.outside(0, 2)) {
            Check.noSuch("leg", () -> x.authorised(wrong));
        }
    }

    static void promise14LegOutside() {
        Nestedfare x = Given.with(10, 10, 10);
        for (int wrong : Given.outside(0, 2)) {
            Check.noSuch("leg", () -> x.protectedSeats(wrong, 5));
        }
    }

    static void promise14FareLeastAndGreatest() {
        Nestedfare x = Given.with(10, 10, 10);
        x.addProduct(0, 2, 1000);
        Given.askOften(x, 0, 3);
        x.endDay(100);
        Check.same("the least", x.protectedSeats(1, 1), 3);
        Check.same("just less than the greatest", x.protectedSeats(1, 999), 3);
        Check.same("the greatest", x.protectedSeats(1, 1000), 0);
    }

    static void promise14FareOutside() {
        Nestedfare x = Given.with(10, 10, 10);
        for (int wrong : Given.outside(1, 1000)) {
            Check.outOfRange("fare", () -> x.protectedSeats(0, wrong));
        }
    }

    static void promise17LegOutside() {
        Nestedfare x = Given.with(10, 10, 10);
        for (int wrong : Given.outside(0, 2)) {
            Check.noSuch("leg", () -> x.bid(wrong));
        }
    }

    // ---- promise 18

    static void promise18EachPairOfLegsInOrder() {
        Nestedfare x = Given.with(1, 1, 1);
        for (int leg = 0; leg < 3; leg++) {
            x.addProduct(leg, leg, 1 << leg);
            x.setExpected(leg, 1);
        }
        for (int first = 0; first < 3; first++) {
            for (int last = first; last < 3; last++) {
                int due = (2 << last) - (1 << first);
                Check.same("over " + first + last, x.displaced(first, last, 1), due);
            }
        }
    }

    static void promise18EachPairOfLegsOutOfOrder() {
        Nestedfare x = Given.with(10, 10, 10);
        Check.outOfRange("1, 0", () -> x.displaced(1, 0, 1));
        Check.outOfRange("2, 0", () -> x.displaced(2, 0, 1));
        Check.outOfRange("2, 1", () -> x.displaced(2, 1, 1));
    }

    static void promise18NoSuchLeg() {
        Nestedfare x = Given.with(10, 10, 10);
        for (int wrong : Given.outside(0, 2)) {
            Check.noSuch("first", () -> x.displaced(wrong, 2, 1));
            Check.noSuch("last", () -> x.displaced(0, wrong, 1));
            Check.noSuch("both", () -> x.displaced(wrong, wrong, 1));
        }
    }

    static void promise18SeatsLeastAndGreatest() {
        Nestedfare x = Given.with(10, 10, 10);
        x.addProduct(0, 2, 7);
        x.setExpected(0, 20);
        Check.same("the least", x.displaced(0, 2, 1), 7);
        Check.same("the greatest", x.displaced(0, 2, 10), 70);
    }

    static void promise18SeatsOutside() {
        Nestedfare x = Given.with(10, 10, 10);
        for (int wrong : Given.outside(1, 10)) {
            Check.outOfRange("seats", () -> x.displaced(0, 2, wrong));
        }
    }

    // ---- promises 19, 20 and 21: the products

    static void promise19TheLastProductAndTheNext() {
        Nestedfare x = Given.withEightProducts();
        x.setExpected(0, 1);
        x.setExpected(7, 2);
        Check.same("the first", x.expected(0), 1);
        Check.same("the last", x.expected(7), 2);
        for (int wrong : Given.outside(0, 7)) {
            Check.noSuch("none", () -> x.expected(wrong));
        }
        Nestedfare one = Given.withBookings(0);
        Check.same("one", one.expected(0), 0);
        Check.noSuch("the next after one", () -> one.expected(1));
    }

    static void promise20TheLastProductAndTheNext() {
        Nestedfare x = Given.withEightProducts();
        Given.askOften(x, 0, 1);
        Given.askOften(x, 7, 2);
        x.endDay(100);
        Check.sameFloat("the first", x.average(0), 1.0f);
        Check.sameFloat("the last", x.average(7), 2.0f);
        for (int wrong : Given.outside(0, 7)) {
            Check.noSuch("none", () -> (long) x.average(wrong));
        }
        Nestedfare one = Given.withBookings(0);
        Check.sameFloat("one", one.average(0), 0.0f);
        Check.noSuch("the next after one", () -> (long) one.average(1));
    }

    static void promise21TheLastProductAndTheNext() {
        Nestedfare x = Given.withEightProducts();
        Given.askOften(x, 0, 1);
        Given.askOften(x, 7, 2);
        Check.same("the first", x.asked(0), 1);
        Check.same("the last", x.asked(7), 2);
        for (int wrong : Given.outside(0, 7)) {
            Check.noSuch("none", () -> x.asked(wrong));
        }
        Nestedfare one = Given.withBookings(0);
        Check.same("one", one.asked(0), 0);
        Check.noSuch("the next after one", () -> one.asked(1));
    }

    // ---- promise 22

    static void promise22WhyLeastAndGreatest() {
        Nestedfare x = new Nestedfare();
        Check.same("BELOW", x.refused(-3), 0);
        Check.same("PROTECTED", x.refused(-2), 0);
        Check.same("FULL", x.refused(-1), 0);
    }

    static void promise22WhyOutside() {
        Nestedfare x = new Nestedfare();
        for (int wrong : Given.outside(-3, -1)) {
            Check.outOfRange("why", () -> x.refused(wrong));
        }
        Check.outOfRange("its amount", () -> x.refused(3));
    }

    // ---- promises 23 and 24

    static void promise23NoneOneAndTheMost() {
        Nestedfare x = Given.with(10, 10, 10);
        Check.same("none", x.revenue(), 0);
        x.addProduct(0, 2, 1);
        x.ask(0);
        Check.same("one", x.revenue(), 1);
        x.cancel(0);
        Check.same("one that is cancelled", x.revenue(), 0);
        for (int leg = 0; leg < 3; leg++) {
            x.group(leg, leg, 10, 3000);
        }
        Check.same("the dearest groups on all legs", x.revenue(), 90000);
    }

    static void promise24NoneOneAndMany() {
        Nestedfare x = Given.with(10, 10, 10);
        Check.same("none", x.earned(), 0);
        long due = 0;
        for (int day = 0; day < 80; day++) {
            for (int leg = 0; leg < 3; leg++) {
                x.group(leg, leg, 10, 3000);
            }
            x.endDay(100);
            due += 90000;
            Check.same("so many days", x.earned(), due);
        }
    }
}
