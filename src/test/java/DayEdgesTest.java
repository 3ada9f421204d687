/** The end of a day, what the tables learn at it, and the authorised seats, at their boundaries. */
public final class DayEdgesTest {
    public static void main(String[] args) throws ReflectiveOperationException {
        Check.tests(DayEdgesTest.class);
    }

    /** So many booked on leg 0, where then are so many seats. */
    private static Nestedfare booked(int many, int seats) {
        Nestedfare x = Given.with(10, 10, 10);
        if (many > 0) {
            x.group(0, 0, many, 1000);
        }
        x.setSeats(seats, 10, 10);
        return x;
    }

    /** Product 0, of a fare of 100 over leg 1, asked for so often on each of so many days. */
    private static Nestedfare learnt(int... askedByDay) {
        Nestedfare x = Given.with(10, 10, 10);
        x.addProduct(1, 1, 100);
        for (int asked : askedByDay) {
            Given.askOften(x, 0, asked);
            x.endDay(100);
        }
        return x;
    }

    // ---- promise 9: who shows up, rounded up; above the seats they are denied

    static void promise9NoneBooked() {
        Check.same("of no seats", booked(0, 0).endDay(100), 0);
    }

    static void promise9RoundedUpFromTheLeastPart() {
        Check.same("0 percent of ten", booked(10, 0).endDay(0), 0);
        Check.same("1 percent of one", booked(1, 0).endDay(1), 1);
        Check.same("1 percent of ten", booked(10, 0).endDay(1), 1);
    }

    static void promise9WholeNumbersAreNotRounded() {
        Check.same("10 percent of ten", booked(10, 0).endDay(10), 1);
        Check.same("11 percent of ten", booked(10, 0).endDay(11), 2);
        Check.same("50 percent of two", booked(2, 0).endDay(50), 1);
        Check.same("51 percent of two", booked(2, 0).endDay(51), 2);
        Check.same("90 percent of ten", booked(10, 0).endDay(90), 9);
        Check.same("91 percent of ten", booked(10, 0).endDay(91), 10);
        Check.same("99 percent of one", booked(1, 0).endDay(99), 1);
        Check.same("100 percent of ten", booked(10, 0).endDay(100), 10);
    }

    static void promise9DeniedBeginsAboveTheSeats() {
        Check.same("six of seven seats", booked(6, 7).endDay(100), 0);
        Check.same("six of six seats", booked(6, 6).endDay(100), 0);
        Check.same("six of five seats", booked(6, 5).endDay(100), 1);
        Check.same("six of no seats", booked(6, 0).endDay(100), 6);
    }

    static void promise9SeatsEnoughOnOneLegDoNotHelpAnother() {
        Nestedfare x = Given.with(10, 10, 10);
        x.group(0, 2, 3, 1);
        x.setSeats(2, 10, 10);
        Check.same("one on leg 0", x.endDay(100), 1);
    }

    static void promise9DeniedOnEachLeg() {
        for (int leg = 0; leg < 3; leg++) {
            Nestedfare x = Given.with(10, 10, 10);
            x.group(leg, leg, 4, 1);
            x.setSeats(2, 2, 2);
            Check.same("two on leg " + leg, x.endDay(100), 2);
        }
    }

    static void promise9OverbookedOnesAreDeniedAboveTheSeats() {
        Nestedfare x = Given.with(10, 10, 10);
        x.setRate(50);
        x.addProduct(0, 2, 1);
        Given.askOften(x, 0, 15);
        Check.same("five on each leg", x.endDay(100), 15);
        Check.same("15 fares less 15 hundreds", x.earned(), 15 - 1500);
        Given.askOften(x, 0, 15);
        Check.same("67 percent of 15 are 10.05", x.endDay(67), 3);
        Given.askOften(x, 0, 15);
        Check.same("66 percent of 15 are 9.9", x.endDay(66), 0);
        Check.same("earned", x.earned(), 45 - 1800);
    }

    static void promise9CancelledOnesDoNotShowUp() {
        Nestedfare x = booked(6, 10);
        x.group(0, 0, 4, 1);
        x.cancel(0);
        x.setSeats(3, 10, 10);
        Check.same("four of three seats", x.endDay(100), 1);
        Check.same("their fares alone", x.earned(), 4 - 100);
    }

    static void promise9EarningsMayBeNothingOrLess() {
        Nestedfare x = Given.with(10, 0, 0);
        x.group(0, 0, 1, 100);
        x.setSeats(0, 0, 0);
        x.endDay(100);
        Check.same("100 less 100", x.earned(), 0);
        x.setSeats(10, 0, 0);
        x.group(0, 0, 1, 99);
        x.setSeats(0, 0, 0);
        x.endDay(100);
        Check.same("99 less 100", x.earned(), -1);
    }

    static void promise9SixtyBookings() {
        Nestedfare x = Given.withBookings(60);
        x.setSeats(0, 0, 0);
        Check.same("the one that is left, on three legs", x.endDay(100), 3);
        Check.same("earned", x.earned(), 10 - 300);
        Check.sameFloat("all sixty asked", x.average(0), 60.0f);
    }

    static void promise9WhatEndsWithTheDay() {
        Nestedfare x = Given.withBookings(5);
        x.endDay(100);
        for (int leg = 0; leg < 3; leg++) {
            Check.same("booked", x.booked(leg), 0);
        }
        Check.same("asked", x.asked(0), 0);
        Check.same("revenue", x.revenue(), 0);
        Check.noSuch("a booking", () -> x.cancel(0));
        Check.same("the first booking", x.ask(0), 0);
    }

    static void promise9WhatStaysOverTheDay() {
        Nestedfare x = Given.withBookings(0);
        x.setSeats(1, 2, 3);
        x.setRate(60);
        x.group(0, 0, 10, 1);
        x.endDay(100);
        Check.same("products", x.products(), 1);
        Check.same("refused", x.refused(Nestedfare.FULL), 1);
        Check.same("seats of leg 0", x.displaced(0, 0, 1), 0);
        Check.same("seats of leg 0, one more", x.displaced(0, 0, 2), Nestedfare.FULL);
        Check.same("seats of leg 2", x.displaced(2, 2, 3), 0);
        Check.same("show rate", x.setRate(100), 60);
    }

    // ---- promises 9, 19 and 20: the average

    static void promise19ExpectedIsRoundedDown() {
        Check.same("two of three", learnt(2, 0, 0).expected(0), 0);
        Check.same("three of three", learnt(2, 0, 1).expected(0), 1);
        Check.same("five of three", learnt(5, 0, 0).expected(0), 1);
        Check.same("six of three", learnt(1, 2, 3).expected(0), 2);
    }

    static void promise19ExpectedNoneAndOne() {
        Check.same("none asked", learnt(0).expected(0), 0);
        Check.same("one asked", learnt(1).expected(0), 1);
    }

    static void promise19WhatWasSetIsForgotten() {
        Nestedfare x = learnt(4);
        x.setExpected(0, 20);
        x.endDay(100);
        Check.same("four of two", x.expected(0), 2);
        x.setExpected(0, 0);
        Given.askOften(x, 0, 2);
        x.endDay(100);
        Check.same("six of three", x.expected(0), 2);
    }

    static void promise19MoreThanTwentyAreLearntWhole() {
        Check.same("20", learnt(20).expected(0), 20);
        Check.same("21", learnt(21).expected(0), 21);
        Check.same("101 of two days", learnt(100, 1).expected(0), 50);
    }

    static void promise20WithoutPastDays() {
        Nestedfare x = learnt();
        Given.askOften(x, 0, 3);
        Check.sameFloat("average", x.average(0), 0.0f);
    }

    static void promise20TodayDoesNotCount() {
        Nestedfare x = learnt(3, 1);
        Given.askOften(x, 0, 9);
        Check.sameFloat("average of the past days", x.average(0), 2.0f);
        Check.same("expected", x.expected(0), 2);
        Check.same("today", x.asked(0), 9);
    }

    static void promise20OfOneDayAndOfMany() {
        Check.sameFloat("nobody", learnt(0).average(0), 0.0f);
        Check.sameFloat("one", learnt(1).average(0), 1.0f);
        Check.sameFloat("one of two days", learnt(1, 0).average(0), 0.5f);
        Check.sameFloat("one of three days", learnt(0, 1, 0).average(0), 1.0f / 3.0f);
        Check.sameFloat("two of three days", learnt(0, 1, 1).average(0), 2.0f / 3.0f);
        Check.sameFloat("a hundred of seven days", learnt(90, 10, 0, 0, 0, 0, 0).average(0), 100.0f / 7.0f);
    }

    static void promise20WhatIsExpectedDoesNotCount() {
        Nestedfare x = learnt(3);
        x.setExpected(0, 20);
        Check.sameFloat("average", x.average(0), 3.0f);
    }

    static void promise21NoneOneAndManyToday() {
        Nestedfare x = learnt(3);
        Check.same("none", x.asked(0), 0);
        x.ask(0);
        Check.same("one", x.asked(0), 1);
        Given.askOften(x, 0, 299);
        Check.same("three hundred", x.asked(0), 300);
    }

    static void promise21AsManyAsCallsCanAsk() {
        Nestedfare x = new Nestedfare();
        x.addProduct(0, 2, 1000);
        Given.askOften(x, 0, 505);
        Check.same("asked", x.asked(0), 505);
        x.endDay(100);
        Check.same("expected", x.expected(0), 505);
        Check.sameFloat("average", x.average(0), 505.0f);
        Check.same("protected", x.protectedSeats(0, 999), 20);
        Check.same("refused", x.refused(Nestedfare.FULL), 505);
    }

    // ---- promise 14: the protected seats

    static void promise14WithoutPastDays() {
        Nestedfare x = learnt();
        Given.askOften(x, 0, 5);
        Check.same("none", x.protectedSeats(1, 1), 0);
    }

    static void promise14TodayDoesNotCount() {
        Nestedfare x = learnt(3, 1);
        int[] asked = {2, 4, 20, 40};
        int before = 0;
        for (int many : asked) {
            Given.askOften(x, 0, many - before);
            before = many;
            Check.same("on one of two days, 50, " + many + " today", x.protectedSeats(1, 50), 3);
            Check.same("on one of two days, 51, " + many + " today", x.protectedSeats(1, 51), 1);
        }
    }

    static void promise14NobodyAsked() {
        Check.same("none", learnt(0).protectedSeats(1, 1), 0);
        Check.same("none in ten days", learnt(0, 0, 0, 0, 0, 0, 0, 0, 0, 0).protectedSeats(1, 1), 0);
    }

    static void promise14TwentyStandsForMore() {
        Check.same("1", learnt(1).protectedSeats(1, 99), 1);
        Check.same("19", learnt(19).protectedSeats(1, 99), 19);
        Check.same("20", learnt(20).protectedSeats(1, 99), 20);
        Check.same("21", learnt(21).protectedSeats(1, 99), 20);
        Check.same("45", learnt(45).protectedSeats(1, 99), 20);
    }

    static void promise14MoreThanTwentyCountAsTwentyOrMore() {
        Nestedfare x = learnt(20, 21, 40);
        Check.same("on each of three days", x.protectedSeats(1, 99), 20);
        Nestedfare y = learnt(19, 21, 40);
        Check.same("on two of three days, 66", y.protectedSeats(1, 66), 20);
        Check.same("on two of three days, 67", y.protectedSeats(1, 67), 19);
    }

    static void promise14OnlyAgainstALesserFare() {
        Nestedfare x = learnt(4);
        Check.same("one less", x.protectedSeats(1, 99), 4);
        Check.same("the same", x.protectedSeats(1, 100), 0);
        Check.same("one more", x.protectedSeats(1, 101), 0);
    }

    static void promise14AtLeastTheFareTimesTheDays() {
        Nestedfare x = learnt(7, 5, 5, 2);
        // On one day of four 7 or more, on three 5 or more, on four 2 or more.
        Check.same("100 is 25 times four", x.protectedSeats(1, 25), 7);
        Check.same("100 is less than 26 times four", x.protectedSeats(1, 26), 5);
        Check.same("300 is 75 times four", x.protectedSeats(1, 75), 5);
        Check.same("300 is less than 76 times four", x.protectedSeats(1, 76), 2);
        Check.same("400 is more than 99 times four", x.protectedSeats(1, 99), 2);
    }

    static void promise14NoDayEnough() {
        Nestedfare x = learnt(1, 0, 0);
        Check.same("100 is less than 34 times three", x.protectedSeats(1, 34), 0);
        Check.same("100 is more than 33 times three", x.protectedSeats(1, 33), 1);
    }

    static void promise14OnlyOnTheLegsThatAreGoneOver() {
        int[] seats = {1, 2, 3, 4, 5, 6};
        int[] due = {1 + 2 + 3, 2 + 3 + 4 + 5, 3 + 5 + 6};
        Nestedfare x = Given.with(10, 10, 10);
        int p = 0;
        for (int first = 0; first < 3; first++) {
            for (int last = first; last < 3; last++) {
                x.addProduct(first, last, 100);
                Given.askOften(x, p, seats[p]);
                p++;
            }
        }
        x.endDay(100);
        for (int leg = 0; leg < 3; leg++) {
            Check.same("leg " + leg, x.protectedSeats(leg, 99), due[leg]);
        }
    }

    static void promise14EightProductsTheMost() {
        Nestedfare x = Given.with(0, 0, 0);
        for (int p = 0; p < 8; p++) {
            x.addProduct(0, 2, 993 + p);
            Given.askOften(x, p, 21);
        }
        x.endDay(100);
        Check.same("all of them", x.protectedSeats(1, 1), 160);
        Check.same("all but the cheapest", x.protectedSeats(1, 993), 140);
        Check.same("the dearest", x.protectedSeats(1, 999), 20);
        Check.same("none", x.protectedSeats(1, 1000), 0);
    }

    static void promise14MoreThanTheSeatsOfTheLeg() {
        Nestedfare x = learnt(15);
        x.setSeats(10, 0, 10);
        Check.same("15 of no seats", x.protectedSeats(1, 99), 15);
    }

    static void promise14RefusedOnesCount() {
        Nestedfare x = Given.with(0, 0, 0);
        x.addProduct(0, 0, 100);
        Given.askOften(x, 0, 6);
        x.endDay(100);
        Check.same("six who were refused", x.protectedSeats(0, 99), 6);
    }

    static void promise14CancelledOnesCount() {
        Nestedfare x = Given.withBookings(6);
        x.cancel(5);
        x.endDay(100);
        Check.same("six who cancelled", x.protectedSeats(0, 9), 6);
    }

    static void promise14AddedLaterNobodyAskedBefore() {
        Nestedfare x = learnt(0);
        x.addProduct(2, 2, 100);
        Check.same("nobody yet", x.protectedSeats(2, 1), 0);
        Check.same("none expected yet", x.expected(1), 0);
        Check.sameFloat("none on average yet", x.average(1), 0.0f);
        Given.askOften(x, 1, 3);
        x.endDay(100);
        Check.same("on one day of two, 50", x.protectedSeats(2, 50), 3);
        Check.same("on one day of two, 51", x.protectedSeats(2, 51), 0);
        Check.same("expected", x.expected(1), 1);
        Check.sameFloat("average", x.average(1), 1.5f);
    }

    static void promise14AddedOnTheDayItself() {
        Nestedfare x = Given.with(10, 10, 10);
        x.addProduct(2, 2, 100);
        Given.askOften(x, 0, 3);
        x.endDay(100);
        Check.same("on one day of one", x.protectedSeats(2, 99), 3);
    }

    static void promise14ManyDays() {
        Nestedfare x = Given.with(10, 10, 10);
        x.addProduct(0, 0, 1000);
        for (int day = 0; day < 100; day++) {
            if (day < 3) {
                x.ask(0);
            }
            x.endDay(100);
        }
        Check.same("on three days of a hundred, 30", x.protectedSeats(0, 30), 1);
        Check.same("on three days of a hundred, 31", x.protectedSeats(0, 31), 0);
        Check.sameFloat("average", x.average(0), 3.0f / 100.0f);
        Check.same("expected", x.expected(0), 0);
    }

    // ---- promise 13: the authorised seats, rounded down

    static void promise13EachRateAndEachNumberOfSeats() {
        for (int rate = 50; rate <= 100; rate++) {
            Nestedfare x = new Nestedfare();
            x.setRate(rate);
            for (int seats = 0; seats <= 10; seats++) {
                x.setSeats(seats, 10 - seats, 0);
                int more = 0;
                while (100 * (more + 1) <= seats * (100 - rate)) {
                    more++;
                }
                Check.same(seats + " seats at " + rate, x.authorised(0), seats + more);
                Check.same("no seats at " + rate, x.authorised(2), 0);
            }
        }
    }

    static void promise13OneMoreBegins() {
        Nestedfare x = Given.with(10, 2, 1);
        x.setRate(91);
        Check.same("ten at 91", x.authorised(0), 10);
        x.setRate(90);
        Check.same("ten at 90", x.authorised(0), 11);
        x.setRate(51);
        Check.same("two at 51", x.authorised(1), 2);
        x.setRate(50);
        Check.same("two at 50", x.authorised(1), 3);
        Check.same("one at 50", x.authorised(2), 1);
    }

    static void promise13BookingsDoNotCount() {
        Nestedfare x = booked(10, 4);
        Check.same("four", x.authorised(0), 4);
    }
}
