/** The numbers at which FULL, PROTECTED and BELOW begin, and which of them comes first. */
public final class RefusalsTest {
    private static final int FULL = Nestedfare.FULL;
    private static final int PROTECTED = Nestedfare.PROTECTED;
    private static final int BELOW = Nestedfare.BELOW;

    public static void main(String[] args) throws ReflectiveOperationException {
        Check.tests(RefusalsTest.class);
    }

    /** As many as could be booked, one after the other, ahead of a refusal, and what the refusal was. */
    private static void booksThen(String what, Nestedfare x, int product, int many, int refusal) {
        int from = -1;
        for (int i = 0; i < many; i++) {
            int booking = x.ask(product);
            Check.same(what + ", booking " + i + " of " + many, booking >= 0 && booking > from ? 1 : booking, 1);
            from = booking;
        }
        Check.same(what + ", the next after " + many, x.ask(product), refusal);
    }

    // ---- promise 6, FULL: as many are booked as are authorised, or more

    static void promise6FullWithoutSeats() {
        Nestedfare x = Given.with(0, 10, 10);
        x.addProduct(0, 0, 5);
        booksThen("no seats", x, 0, 0, FULL);
    }

    static void promise6FullBeginsAtTheSeats() {
        for (int seats = 1; seats <= 10; seats += 3) {
            Nestedfare x = Given.with(10, seats, 10);
            x.addProduct(0, 2, 5);
            booksThen(seats + " seats", x, 0, seats, FULL);
        }
    }

    static void promise6FullBeginsAtTheAuthorisedSeats() {
        Nestedfare x = Given.with(10, 10, 10);
        x.setRate(50);
        x.addProduct(0, 2, 5);
        booksThen("15 authorised", x, 0, 15, FULL);
    }

    static void promise6FullWithMoreBookedThanAuthorised() {
        Nestedfare x = Given.with(3, 3, 3);
        x.addProduct(0, 0, 5);
        Given.askOften(x, 0, 3);
        x.setSeats(2, 3, 3);
        Check.same("one more", x.ask(0), FULL);
        x.setSeats(0, 3, 3);
        Check.same("three more", x.ask(0), FULL);
        x.setSeats(4, 3, 3);
        Check.same("one less", x.ask(0), 3);
    }

    static void promise6FullOnOneOfTheLegs() {
        for (int leg = 0; leg < 3; leg++) {
            Nestedfare x = Given.with(leg == 0 ? 1 : 2, leg == 1 ? 1 : 2, leg == 2 ? 1 : 2);
            x.addProduct(0, 2, 5);
            booksThen("leg " + leg, x, 0, 1, FULL);
        }
    }

    static void promise6NotFullOnLegsThatAreNotGoneOver() {
        Nestedfare x = Given.with(0, 1, 0);
        x.addProduct(1, 1, 5);
        booksThen("leg 1 alone", x, 0, 1, FULL);
        Nestedfare y = Given.with(1, 1, 0);
        y.addProduct(0, 1, 5);
        booksThen("the first two", y, 0, 1, FULL);
        Nestedfare z = Given.with(0, 1, 1);
        z.addProduct(1, 2, 5);
        booksThen("the last two", z, 0, 1, FULL);
    }

    static void promise6FullEndsWithACancelledOne() {
        Nestedfare x = Given.with(2, 2, 2);
        x.addProduct(0, 2, 5);
        booksThen("two", x, 0, 2, FULL);
        x.cancel(1);
        booksThen("one again", x, 0, 1, FULL);
    }

    // ---- promise 6, PROTECTED: the authorised seats less the booked and the protected ones are not above 0

    /** Product 0, on leg 2, was asked for so often a day ago and is not expected; product 1 is cheap, over all legs. */
    private static Nestedfare guarded(int seats, int asked) {
        Nestedfare x = Given.with(10, 10, 10);
        x.addProduct(2, 2, 100);
        x.addProduct(0, 2, 99);
        Given.askOften(x, 0, asked);
        x.endDay(100);
        x.setExpected(0, 0);
        x.setSeats(10, 10, seats);
        return x;
    }

    static void promise6ProtectedBeginsWithNoneLeftOver() {
        Nestedfare x = guarded(5, 3);
        Check.same("protected", x.protectedSeats(2, 99), 3);
        booksThen("five less three", x, 1, 2, PROTECTED);
    }

    static void promise6ProtectedAllOfThem() {
        booksThen("three of three", guarded(3, 3), 1, 0, PROTECTED);
        booksThen("three of four", guarded(4, 3), 1, 1, PROTECTED);
    }

    static void promise6ProtectedMoreThanThereAre() {
        booksThen("three of two", guarded(2, 3), 1, 0, PROTECTED);
        booksThen("twenty of ten", guarded(10, 25), 1, 0, PROTECTED);
    }

    static void promise6ProtectedNone() {
        booksThen("none of four", guarded(4, 0), 1, 4, FULL);
    }

    static void promise6ProtectedOfTheAuthorisedSeats() {
        Nestedfare x = guarded(4, 3);
        x.setRate(75);
        booksThen("five less three", x, 1, 2, PROTECTED);
    }

    static void promise6TheDearOneGoesOnUntilFull() {
        Nestedfare x = guarded(5, 3);
        booksThen("the cheap one", x, 1, 2, PROTECTED);
        booksThen("the dear one", x, 0, 3, FULL);
    }

    static void promise6NotProtectedFromTheSameFare() {
        Nestedfare x = guarded(3, 3);
        x.addProduct(1, 2, 100);
        booksThen("the same fare", x, 2, 3, FULL);
    }

    static void promise6NotProtectedOnOtherLegs() {
        Nestedfare x = guarded(1, 3);
        x.addProduct(0, 1, 1);
        booksThen("legs 0 and 1", x, 2, 10, FULL);
    }

    static void promise6TodayProtectsNothing() {
        Nestedfare x = Given.with(4, 4, 4);
        x.addProduct(0, 0, 100);
        x.addProduct(0, 0, 50);
        Given.askOften(x, 0, 2);
        booksThen("the cheap one", x, 1, 2, FULL);
    }

    static void promise6FullBeforeProtected() {
        booksThen("both apply", guarded(0, 3), 1, 0, FULL);
        Nestedfare x = guarded(3, 3);
        Given.askOften(x, 0, 2);
        Check.same("one authorised is left, three protected", x.ask(1), PROTECTED);
        x.ask(0);
        Check.same("none is left", x.ask(1), FULL);
    }

    static void promise6FullOnALaterLegBeforeProtectedOnAnEarlierOne() {
        Nestedfare x = Given.with(10, 10, 10);
        x.addProduct(0, 0, 100);
        x.addProduct(0, 2, 99);
        Given.askOften(x, 0, 10);
        x.endDay(100);
        x.setSeats(5, 5, 0);
        Check.same("leg 0 is protected, leg 2 full", x.ask(1), FULL);
        x.setSeats(5, 5, 1);
        Check.same("leg 0 is protected", x.ask(1), PROTECTED);
    }

    static void promise6ProtectedBeforeBelow() {
        Nestedfare x = guarded(3, 3);
        x.setExpected(0, 4);
        Check.same("the bid price", x.bid(2), 100);
        Check.same("both apply", x.ask(1), PROTECTED);
        Check.same("not refused as BELOW", x.refused(BELOW), 0);
    }

    // ---- promise 6, BELOW: the fare is below the bid prices, added up

    /** One seat a leg, and two to come for each: the bid prices are 70, 60 and 50; the next product is number 3. */
    private static Nestedfare wanted() {
        Nestedfare x = Given.with(1, 1, 1);
        int[] fares = {70, 60, 50};
        for (int leg = 0; leg < 3; leg++) {
            x.addProduct(leg, leg, fares[leg]);
            x.setExpected(leg, 2);
        }
        return x;
    }

    static void promise6BelowBeginsAtTheBidPriceOfOneLeg() {
        Nestedfare x = wanted();
        x.addProduct(0, 0, 69);
        x.addProduct(0, 0, 71);
        Check.same("the bid price", x.bid(0), 70);
        Check.same("one less", x.ask(3), BELOW);
        Check.same("one more", x.ask(4), 0);
    }

    static void promise6AsMuchAsTheBidPriceIsNotBelow() {
        Nestedfare x = wanted();
        x.setExpected(1, 1);
        x.addProduct(0, 1, 69);
        x.addProduct(0, 1, 70);
        Check.same("70 and 0, one less", x.ask(3), BELOW);
        Check.same("70 and 0", x.ask(4), 0);
    }

    static void promise6BelowBeginsAtTheBidPricesOfTwoLegs() {
        Nestedfare x = wanted();
        x.addProduct(1, 2, 109);
        x.addProduct(1, 2, 110);
        Check.same("60 and 50, one less", x.ask(3), BELOW);
        Check.same("60 and 50", x.ask(4), 0);
    }

    static void promise6BelowBeginsAtTheBidPricesOfThreeLegs() {
        Nestedfare x = wanted();
        x.addProduct(0, 2, 179);
        x.addProduct(0, 2, 180);
        Check.same("70, 60 and 50, one less", x.ask(3), BELOW);
        Check.same("70, 60 and 50", x.ask(4), 0);
    }

    static void promise6BelowAddsUpWhatEachLegIsWorthAlone() {
        Nestedfare x = Given.with(1, 1, 1);
        x.addProduct(0, 1, 100);
        x.addProduct(0, 1, 1);
        x.setExpected(0, 2);
        Check.same("a seat on leg 0 alone", x.bid(0), 0);
        Check.same("a seat on leg 1 alone", x.bid(1), 0);
        Check.same("1 is not below 0", x.ask(1), 0);
    }

    static void promise6BelowWithNoneToCome() {
        Nestedfare x = Given.with(1, 1, 1);
        x.addProduct(0, 0, 1000);
        x.addProduct(0, 0, 1);
        Check.same("the least fare", x.ask(1), 0);
    }

    static void promise6FullBeforeBelow() {
        Nestedfare x = wanted();
        x.addProduct(0, 0, 1);
        x.setSeats(0, 1, 1);
        Check.same("both apply", x.ask(3), FULL);
        Check.same("not refused as BELOW", x.refused(BELOW), 0);
    }

    static void promise6BelowWhereMoreAreBookedThanSeats() {
        Nestedfare x = Given.with(4, 4, 4);
        x.addProduct(0, 0, 30);
        x.addProduct(0, 0, 29);
        x.addProduct(0, 0, 31);
        x.setRate(50);
        Given.askOften(x, 2, 5);
        x.setExpected(0, 1);
        Check.same("one seat where none is", x.bid(0), 30);
        Check.same("one less", x.ask(1), BELOW);
        Check.same("the last authorised one", x.ask(2), 5);
    }

    // ---- what a refused one changes

    static void promise6EachRefusedOneIsCountedAsAsking() {
        Nestedfare full = Given.with(0, 0, 0);
        full.addProduct(0, 0, 5);
        full.ask(0);
        Check.same("full", full.asked(0), 1);
        Nestedfare guarded = guarded(3, 3);
        guarded.ask(1);
        Check.same("protected", guarded.asked(1), 1);
        Nestedfare below = wanted();
        below.addProduct(0, 0, 1);
        below.ask(3);
        Check.same("below", below.asked(3), 1);
        below.endDay(100);
        Check.sameFloat("the tables learn it", below.average(3), 1.0f);
    }

    static void promise6ARefusedOneBooksNothing() {
        Nestedfare x = wanted();
        x.addProduct(0, 2, 1);
        x.ask(3);
        for (int leg = 0; leg < 3; leg++) {
            Check.same("nothing booked", x.booked(leg), 0);
        }
        Check.same("no revenue", x.revenue(), 0);
        Check.noSuch("no booking", () -> x.cancel(0));
        Check.same("the worth", x.worth(), 180);
    }

    static void promise6ARefusedOneComesNoMore() {
        Nestedfare x = Given.with(0, 0, 0);
        x.addProduct(0, 0, 40);
        x.setExpected(0, 2);
        Check.same("full", x.ask(0), FULL);
        x.setSeats(5, 5, 5);
        Check.same("one is still to come", x.worth(), 40);
    }

    static void promise22EachKindIsCountedAlone() {
        Nestedfare x = guarded(3, 3);
        x.ask(1);
        x.ask(1);
        Check.same("protected", x.refused(PROTECTED), 2);
        Check.same("not full", x.refused(FULL), 0);
        Check.same("not below", x.refused(BELOW), 0);
        x.setSeats(0, 0, 0);
        x.ask(0);
        x.group(0, 0, 1, 1);
        x.group(1, 2, 1, 1);
        Check.same("full, groups too", x.refused(FULL), 3);
        x.endDay(0);
        x.setSeats(10, 10, 10);
        x.setExpected(0, 20);
        x.group(2, 2, 1, 99);
        Check.same("below, a group", x.refused(BELOW), 1);
        Check.same("protected, on all days", x.refused(PROTECTED), 2);
        Check.same("full, on all days", x.refused(FULL), 3);
    }

    static void promise22EachKindIsCountedOnAllDays() {
        Nestedfare x = guarded(5, 3);
        for (int day = 1; day <= 3; day++) {
            x.setSeats(10, 10, 3);
            x.ask(1);
            x.setExpected(0, 20);
            x.group(2, 2, 1, 99);
            x.setSeats(0, 0, 0);
            x.group(0, 0, 1, 1);
            for (int why = BELOW; why <= FULL; why++) {
                Check.same("kind " + why + " on day " + day, x.refused(why), day);
            }
            // Product 0 is asked for as often as on the day before, so that it is protected on the next one, too.
            x.setSeats(10, 10, 10);
            x.setExpected(0, 0);
            Given.askOften(x, 0, 3);
            x.endDay(100);
            for (int why = BELOW; why <= FULL; why++) {
                Check.same("kind " + why + " after day " + day, x.refused(why), day);
            }
        }
    }

    static void promise22ABookingIsNoRefusal() {
        Nestedfare x = wanted();
        x.ask(0);
        x.group(1, 1, 1, 60);
        Check.same("full", x.refused(FULL), 0);
        Check.same("protected", x.refused(PROTECTED), 0);
        Check.same("below", x.refused(BELOW), 0);
    }

    // ---- promise 7, FULL: fewer seats are left than the group needs

    static void promise7FullBeginsAtTheSeatsThatAreLeft() {
        Nestedfare x = Given.with(4, 4, 4);
        Check.same("five of four", x.group(0, 2, 5, 3000), FULL);
        Check.same("four of four", x.group(0, 2, 4, 1), 0);
        Check.same("one of none", x.group(0, 2, 1, 3000), FULL);
        x.cancel(0);
        Check.same("three of four", x.group(0, 2, 3, 1), 1);
        Check.same("two of one", x.group(0, 2, 2, 3000), FULL);
        Check.same("one of one", x.group(0, 2, 1, 1), 2);
    }

    static void promise7FullOnOneOfTheLegs() {
        for (int leg = 0; leg < 3; leg++) {
            Nestedfare x = Given.with(leg == 0 ? 2 : 3, leg == 1 ? 2 : 3, leg == 2 ? 2 : 3);
            Check.same("three of two on leg " + leg, x.group(0, 2, 3, 1), FULL);
            Check.same("two of two on leg " + leg, x.group(0, 2, 2, 1), 0);
        }
    }

    static void promise7NotFullOnLegsThatAreNotGoneOver() {
        Nestedfare x = Given.with(0, 3, 0);
        Check.same("leg 1 alone", x.group(1, 1, 3, 1), 0);
        Nestedfare y = Given.with(3, 3, 0);
        Check.same("the first two", y.group(0, 1, 3, 1), 0);
        Nestedfare z = Given.with(0, 3, 3);
        Check.same("the last two", z.group(1, 2, 3, 1), 0);
    }

    static void promise7FullOfSeatsNotOfAuthorisedOnes() {
        Nestedfare x = Given.with(6, 6, 6);
        x.setRate(50);
        Check.same("nine authorised, six seats", x.group(0, 0, 7, 1), FULL);
        Check.same("six", x.group(0, 0, 6, 1), 0);
    }

    static void promise7FullWithMoreBookedThanSeats() {
        Nestedfare x = Given.with(10, 10, 10);
        x.group(0, 0, 10, 1);
        x.setSeats(5, 10, 10);
        Check.same("none is left", x.group(0, 0, 1, 3000), FULL);
        Check.same("nor over more legs", x.group(0, 2, 1, 3000), FULL);
    }

    static void promise7NeverProtected() {
        Nestedfare x = guarded(3, 3);
        Check.same("three protected of three", x.group(0, 2, 3, 1), 0);
        Check.same("not refused so", x.refused(PROTECTED), 0);
    }

    // ---- promise 7, BELOW: the fare times the seats is below what the group displaces

    static void promise7BelowBeginsAtWhatItDisplaces() {
        Nestedfare x = Given.with(2, 2, 2);
        x.addProduct(0, 0, 70);
        x.setExpected(0, 2);
        Check.same("displaces", x.displaced(0, 0, 1), 70);
        Check.same("one less", x.group(0, 0, 1, 69), BELOW);
        Check.same("as much", x.group(0, 0, 1, 70), 0);
        Check.same("one more", x.group(0, 0, 1, 71), 1);
    }

    static void promise7BelowByTheFareTimesTheSeats() {
        Nestedfare x = Given.with(3, 3, 3);
        x.addProduct(0, 0, 70);
        x.addProduct(0, 0, 61);
        x.setExpected(0, 2);
        x.setExpected(1, 1);
        Check.same("displaces", x.displaced(0, 0, 3), 201);
        Check.same("198", x.group(0, 0, 3, 66), BELOW);
        Check.same("201", x.group(0, 0, 3, 67), 0);
    }

    static void promise7BelowByTheFareOnceForAllLegs() {
        Nestedfare x = Given.with(2, 2, 2);
        x.addProduct(0, 2, 90);
        x.setExpected(0, 2);
        Check.same("displaces", x.displaced(0, 2, 2), 180);
        Check.same("178", x.group(0, 2, 2, 89), BELOW);
        Check.same("180", x.group(0, 2, 2, 90), 0);
    }

    static void promise7NothingDisplaced() {
        Nestedfare x = Given.with(2, 2, 2);
        x.addProduct(0, 2, 1000);
        x.setExpected(0, 1);
        Check.same("displaces", x.displaced(0, 2, 1), 0);
        Check.same("the least fare", x.group(0, 2, 1, 1), 0);
        Check.same("the least fare for the other", x.group(0, 2, 1, 1), BELOW);
    }

    static void promise7FullBeforeBelow() {
        Nestedfare x = Given.with(2, 2, 2);
        x.addProduct(0, 2, 1000);
        x.setExpected(0, 2);
        Check.same("both apply", x.group(0, 2, 3, 1), FULL);
        Check.same("below alone", x.group(0, 2, 2, 1), BELOW);
        Check.same("full", x.refused(FULL), 1);
        Check.same("below", x.refused(BELOW), 1);
    }

    static void promise7ARefusedGroupChangesNothingElse() {
        Nestedfare x = Given.with(2, 2, 2);
        x.addProduct(0, 2, 1000);
        x.setExpected(0, 2);
        x.group(0, 2, 3, 1);
        x.group(0, 2, 2, 1);
        Check.same("nothing booked", x.booked(1), 0);
        Check.same("no revenue", x.revenue(), 0);
        Check.same("nobody asked", x.asked(0), 0);
        Check.same("all still to come", x.worth(), 2000);
        Check.noSuch("no booking", () -> x.cancel(0));
    }

    static void promise7AGroupIsNotCountedInTables() {
        Nestedfare x = Given.with(2, 2, 2);
        x.addProduct(0, 2, 100);
        x.group(0, 2, 2, 100);
        Check.same("nobody asked", x.asked(0), 0);
        x.endDay(100);
        Check.sameFloat("on average", x.average(0), 0.0f);
        Check.same("none is expected", x.expected(0), 0);
        Check.same("nothing protected", x.protectedSeats(0, 1), 0);
    }

    // ---- promise 18

    static void promise18FullBeginsAtTheSeatsThatAreLeft() {
        Nestedfare x = Given.with(4, 5, 6);
        Check.same("leg 0", x.displaced(0, 0, 4), 0);
        Check.same("leg 0, one more", x.displaced(0, 0, 5), FULL);
        Check.same("leg 1", x.displaced(1, 1, 5), 0);
        Check.same("leg 1, one more", x.displaced(1, 1, 6), FULL);
        Check.same("leg 2", x.displaced(2, 2, 6), 0);
        Check.same("leg 2, one more", x.displaced(2, 2, 7), FULL);
        Check.same("all legs", x.displaced(0, 2, 4), 0);
        Check.same("all legs, one more", x.displaced(0, 2, 5), FULL);
        x.group(1, 1, 3, 1);
        Check.same("three are booked", x.displaced(0, 2, 2), 0);
        Check.same("three are booked, one more", x.displaced(0, 2, 3), FULL);
    }

    static void promise18AskingIsNoRefusal() {
        Nestedfare x = Given.with(1, 1, 1);
        x.displaced(0, 2, 2);
        Check.same("refused", x.refused(FULL), 0);
    }
}
