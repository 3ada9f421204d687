/** The worth, the bid price and what is displaced, where there are none, all, or just as many. */
public final class WorthEdgesTest {
    public static void main(String[] args) throws ReflectiveOperationException {
        Check.tests(WorthEdgesTest.class);
    }

    private static void worths(String what, Nestedfare x, int due) {
        Check.same("promise 15, " + what, x.worth(), due);
        Check.same("promise 16, " + what, x.worthByTable(), due);
    }

    /** One product, of a fare of 10, over all legs. */
    private static Nestedfare through(int seats, int expected) {
        Nestedfare x = Given.with(seats, seats, seats);
        x.addProduct(0, 2, 10);
        x.setExpected(0, expected);
        return x;
    }

    // ---- to come: expected, less those who have asked, but at least 0

    static void promise15ToComeOneNoneAndFewerThanNone() {
        Nestedfare x = through(10, 2);
        worths("two", x, 20);
        x.ask(0);
        worths("one", x, 10);
        x.ask(0);
        worths("none", x, 0);
        x.ask(0);
        worths("one more asked than was expected", x, 0);
        x.setExpected(0, 3);
        worths("as many asked as are expected", x, 0);
        x.setExpected(0, 4);
        worths("one again", x, 10);
    }

    static void promise15ToComeTheMost() {
        Nestedfare x = through(10, 20);
        worths("twenty for ten seats", x, 100);
        Given.askOften(x, 0, 10);
        x.endDay(0);
        x.setExpected(0, 20);
        Given.askOften(x, 0, 9);
        worths("eleven for one seat", x, 10);
        x.cancel(0);
        worths("eleven for two seats", x, 20);
    }

    static void promise15ACancelledOneHasAskedAllTheSame() {
        Nestedfare x = through(10, 1);
        x.ask(0);
        x.cancel(0);
        worths("none to come", x, 0);
    }

    static void promise15MoreThanTwentyCanBeToCome() {
        Nestedfare x = through(10, 0);
        Given.askOften(x, 0, 25);
        x.endDay(100);
        Check.same("expected", x.expected(0), 25);
        Given.askOften(x, 0, 3);
        x.cancel(0);
        Given.askOften(x, 0, 19);
        Check.same("asked", x.asked(0), 22);
        x.setSeats(10, 10, 10);
        for (int i = 1; i <= 4; i++) {
            x.cancel(i);
        }
        worths("three to come, four left", x, 30);
    }

    // ---- left: seats less booked, but at least 0

    static void promise15LeftOneNoneAndFewerThanNone() {
        Nestedfare x = through(2, 20);
        x.group(0, 2, 1, 3000);
        worths("one", x, 10);
        x.group(0, 2, 1, 3000);
        worths("none", x, 0);
        x.setSeats(1, 1, 1);
        worths("one booked too much", x, 0);
        x.setSeats(0, 0, 0);
        worths("no seats", x, 0);
        x.setSeats(3, 3, 3);
        worths("one again", x, 10);
    }

    static void promise15FewerThanNoneLeftOnOneLegTakesNothingFromOthers() {
        Nestedfare x = Given.with(5, 5, 5);
        for (int leg = 0; leg < 3; leg++) {
            x.addProduct(leg, leg, 10);
            x.setExpected(leg, 3);
        }
        x.group(1, 1, 5, 3000);
        x.setSeats(5, 0, 5);
        worths("three and three", x, 60);
        Check.same("a seat more on leg 1", x.bid(1), 10);
        Check.same("a fourth seat on leg 0", x.bid(0), 0);
    }

    static void promise15LeftIsNotOfAuthorisedSeats() {
        Nestedfare x = through(10, 20);
        x.setRate(50);
        worths("ten", x, 100);
    }

    // ---- the worth

    static void promise15NoProducts() {
        worths("new", new Nestedfare(), 0);
        worths("with seats", Given.with(10, 10, 10), 0);
    }

    static void promise15NoSeatsOnOneOfTheLegs() {
        for (int leg = 0; leg < 3; leg++) {
            Nestedfare x = through(10, 20);
            x.setSeats(leg == 0 ? 0 : 10, leg == 1 ? 0 : 10, leg == 2 ? 0 : 10);
            worths("none over leg " + leg, x, 0);
        }
    }

    static void promise15AsManyToComeAsLeft() {
        worths("one less", through(5, 4), 40);
        worths("as many", through(5, 5), 50);
        worths("one more", through(5, 6), 50);
        worths("one of one", through(1, 1), 10);
        worths("ten of ten", through(10, 10), 100);
        worths("nine of ten", through(10, 9), 90);
    }

    static void promise15TheLegWithTheFewestSeats() {
        for (int leg = 0; leg < 3; leg++) {
            Nestedfare x = through(10, 20);
            x.setSeats(leg == 0 ? 3 : 10, leg == 1 ? 3 : 10, leg == 2 ? 3 : 10);
            worths("three of leg " + leg, x, 30);
        }
    }

    static void promise15TheGreatest() {
        Nestedfare x = Given.with(10, 10, 10);
        for (int leg = 0; leg < 3; leg++) {
            x.addProduct(leg, leg, 1000);
            x.setExpected(leg, 20);
        }
        worths("a thousand on each seat", x, 30000);
    }

    static void promise15TheLeast() {
        Nestedfare x = Given.with(0, 1, 0);
        x.addProduct(1, 1, 1);
        x.setExpected(0, 1);
        worths("one", x, 1);
    }

    static void promise15EightProducts() {
        Nestedfare x = Given.with(10, 10, 10);
        int[] ends = {0, 0, 1, 1, 2, 2, 0, 1, 1, 2, 0, 2, 0, 2, 1, 1};
        int[] fares = {50, 60, 40, 120, 95, 170, 150, 61};
        int[] expected = {4, 3, 6, 3, 3, 4, 20, 2};
        for (int p = 0; p < 8; p++) {
            x.addProduct(ends[2 * p], ends[2 * p + 1], fares[p]);
            x.setExpected(p, expected[p]);
        }
        // Four of 170, three of 120, three of 95 and three of 150, with 50 and 60 and 40 on what they leave.
        int best = 0;
        for (int a = 0; a <= 4; a++) {
            for (int b = 0; b <= 10 - a; b++) {
                best = Math.max(best, 170 * a + 150 * b + rest(10 - a - b));
            }
        }
        worths("all legs full", x, best);
    }

    /** With so many seats left on each leg: products of one or two legs, all numbers tried one by one. */
    private static int rest(int left) {
        int best = 0;
        for (int c = 0; c <= 3; c++) {
            for (int d = 0; d <= 3 && c + d <= left; d++) {
                int middle = left - c - d;
                int one = Math.min(2, middle);
                int sum = 120 * c + 95 * d + 61 * one + 60 * Math.min(3, middle - one);
                best = Math.max(best, sum + 50 * Math.min(4, left - c) + 40 * Math.min(6, left - d));
            }
        }
        return best;
    }

    static void promise15AskedAgainItIsTheSame() {
        for (int first = 0; first < 3; first++) {
            for (int last = first; last < 3; last++) {
                Nestedfare x = Given.with(10, 10, 10);
                x.addProduct(first, last, 10);
                x.setExpected(0, 4);
                worths("over " + first + last, x, 40);
                worths("once more over " + first + last, x, 40);
                x.setExpected(0, 1);
                worths("fewer over " + first + last, x, 10);
            }
        }
    }

    static void promise15OneSeatAndOneToCome() {
        for (int first = 0; first < 3; first++) {
            for (int last = first; last < 3; last++) {
                Nestedfare x = Given.with(1, 1, 1);
                x.addProduct(first, last, 10);
                worths("none over " + first + last, x, 0);
                x.setExpected(0, 1);
                worths("one over " + first + last, x, 10);
                x.setExpected(0, 0);
                worths("none again over " + first + last, x, 0);
            }
        }
    }

    static void promise15OneDearerOrTwoTogether() {
        for (int fare = 99; fare <= 101; fare++) {
            Nestedfare x = Given.with(1, 1, 1);
            x.addProduct(0, 2, fare);
            x.addProduct(0, 1, 60);
            x.addProduct(2, 2, 40);
            for (int p = 0; p < 3; p++) {
                x.setExpected(p, 1);
            }
            worths("100 against " + fare, x, Math.max(100, fare));
        }
    }

    // ---- promise 17

    static void promise17WithTenLeft() {
        Nestedfare x = Given.with(10, 10, 10);
        for (int leg = 0; leg < 3; leg++) {
            x.addProduct(leg, leg, 10 + leg);
            x.setExpected(leg, 11);
            Check.same("an eleventh on leg " + leg, x.bid(leg), 10 + leg);
            x.setExpected(leg, 10);
            Check.same("nobody for an eleventh on leg " + leg, x.bid(leg), 0);
        }
    }

    static void promise17WithNoneLeft() {
        Nestedfare x = new Nestedfare();
        for (int leg = 0; leg < 3; leg++) {
            x.addProduct(leg, leg, 10 + leg);
            Check.same("nobody for a first on leg " + leg, x.bid(leg), 0);
            x.setExpected(leg, 1);
            Check.same("a first on leg " + leg, x.bid(leg), 10 + leg);
        }
    }

    static void promise17WithFewerThanNoneLeft() {
        Nestedfare x = Given.with(10, 0, 0);
        x.addProduct(0, 0, 25);
        x.group(0, 0, 10, 1);
        x.setExpected(0, 1);
        x.setSeats(0, 0, 0);
        Check.same("a first on leg 0", x.bid(0), 25);
    }

    static void promise17TheLeastAndTheGreatest() {
        Nestedfare x = Given.with(10, 10, 10);
        x.addProduct(0, 0, 1);
        x.addProduct(1, 1, 1000);
        x.setExpected(0, 20);
        x.setExpected(1, 20);
        Check.same("least", x.bid(0), 1);
        Check.same("greatest", x.bid(1), 1000);
        Check.same("nobody goes there", x.bid(2), 0);
    }

    static void promise17OfTheLegThatStopsThem() {
        Nestedfare x = through(3, 20);
        Check.same("all legs stop them", x.bid(1), 0);
        x.setSeats(4, 3, 4);
        Check.same("the middle one does", x.bid(1), 10);
        Check.same("the first one does not", x.bid(0), 0);
        Check.same("the last one does not", x.bid(2), 0);
    }

    static void promise17MayBeMoreThanAnyFareOfTheLeg() {
        Nestedfare x = Given.with(1, 1, 0);
        x.addProduct(0, 2, 30);
        x.addProduct(0, 1, 25);
        x.addProduct(2, 2, 20);
        for (int p = 0; p < 3; p++) {
            x.setExpected(p, 1);
        }
        Check.same("25 and 20, less 25", x.bid(2), 20);
        x.setExpected(2, 0);
        Check.same("30 less 25", x.bid(2), 5);
    }

    // ---- promise 18

    static void promise18AllThatAreLeft() {
        Nestedfare x = through(10, 20);
        Check.same("the whole worth", x.displaced(0, 2, 10), x.worth());
        Check.same("by one leg alone", x.displaced(1, 1, 10), 100);
        x.group(0, 2, 9, 3000);
        Check.same("one left", x.displaced(0, 2, 1), 10);
        Check.same("none left", x.displaced(0, 2, 2), Nestedfare.FULL);
    }

    static void promise18NothingToDisplace() {
        Check.same("no products", Given.with(10, 10, 10).displaced(0, 2, 10), 0);
        Check.same("none expected", through(10, 0).displaced(0, 2, 10), 0);
        Check.same("seats enough", through(10, 9).displaced(0, 2, 1), 0);
        Check.same("one too few", through(10, 9).displaced(0, 2, 2), 10);
    }

    static void promise18OneLegOfManyTakesAsMuchAsAll() {
        Nestedfare x = through(4, 4);
        for (int first = 0; first < 3; first++) {
            for (int last = first; last < 3; last++) {
                Check.same("three over " + first + last, x.displaced(first, last, 3), 30);
            }
        }
    }

    static void promise18WithFewerThanNoneLeft() {
        Nestedfare x = Given.with(5, 5, 5);
        x.group(0, 0, 5, 1);
        x.setSeats(3, 5, 5);
        Check.same("leg 0", x.displaced(0, 0, 1), Nestedfare.FULL);
        Check.same("all legs", x.displaced(0, 2, 1), Nestedfare.FULL);
        Check.same("the others", x.displaced(1, 2, 5), 0);
    }
}
