/** Promises 10 to 24: questions. */
public final class QuestionsTest {
    private static final int[] NO_LEGS = {Integer.MIN_VALUE, -1, 3, Integer.MAX_VALUE};

    public static void main(String[] args) {
        promises10And11();
        promise12();
        promise13();
        promise14();
        promises15And16();
        promises15And16OfThoseToCome();
        promises15And16OfManyProducts();
        promise17();
        promise18();
        promises19To21();
        promise22();
        promises23And24();
        questionsChangeNothing();
        Check.finish();
    }

    private static void promises10And11() {
        Nestedfare x = Given.with(1, 1, 1);
        for (int i = 0; i < 8; i++) {
            Check.same("10 products", x.products(), i);
            Check.same("11 days", x.days(), i);
            x.addProduct(0, 0, 5 + i);
            x.endDay(50);
        }
        Check.same("10 eight", x.products(), 8);
        Check.same("11 eight", x.days(), 8);
    }

    private static void promise12() {
        Nestedfare x = Given.with(5, 5, 5);
        x.addProduct(1, 2, 9);
        x.ask(0);
        x.group(0, 1, 3, 9);
        Check.same("12 leg 0", x.booked(0), 3);
        Check.same("12 leg 1", x.booked(1), 4);
        Check.same("12 leg 2", x.booked(2), 1);
        x.setSeats(0, 0, 0);
        Check.same("12 above the seats", x.booked(1), 4);
        x.cancel(1);
        Check.same("12 cancelled", x.booked(1), 1);
        for (int leg : NO_LEGS) {
            Check.noSuch("12 leg", () -> x.booked(leg));
        }
    }

    private static void promise13() {
        Nestedfare x = Given.with(10, 9, 1);
        Check.same("13 at 100", x.authorised(0), 10);
        x.setRate(91);
        Check.same("13 nine tenths of a seat", x.authorised(0), 10);
        x.setRate(90);
        Check.same("13 one more", x.authorised(0), 11);
        Check.same("13 rounded down", x.authorised(1), 9);
        x.setRate(50);
        Check.same("13 15", x.authorised(0), 15);
        Check.same("13 13", x.authorised(1), 13);
        Check.same("13 1", x.authorised(2), 1);
        for (int leg : NO_LEGS) {
            Check.noSuch("13 leg", () -> x.authorised(leg));
        }
    }

    private static void promise14() {
        Nestedfare x = Given.with(10, 10, 10);
        x.addProduct(0, 1, 200);
        x.addProduct(1, 2, 300);
        Given.askOften(x, 0, 4);
        Check.same("14 without past days", x.protectedSeats(0, 1), 0);
        x.endDay(100);
        Given.askOften(x, 0, 1);
        Given.askOften(x, 1, 2);
        x.endDay(100);
        // Of two days: product 0 was asked for 4 times and once, product 1 not at all and twice.
        Check.same("14 as much as half", x.protectedSeats(0, 100), 4);
        Check.same("14 more than half", x.protectedSeats(0, 101), 1);
        Check.same("14 a greater fare", x.protectedSeats(0, 199), 1);
        Check.same("14 not the same fare", x.protectedSeats(0, 200), 0);
        Check.same("14 added up", x.protectedSeats(1, 100), 6);
        Check.same("14 one of them", x.protectedSeats(1, 101), 3);
        Check.same("14 its half", x.protectedSeats(1, 150), 3);
        Check.same("14 above its half", x.protectedSeats(1, 151), 1);
        Check.same("14 over leg 2", x.protectedSeats(2, 1), 2);
        Check.same("14 dearest", x.protectedSeats(1, 1000), 0);
        Given.askOften(x, 0, 25);
        x.endDay(100);
        Check.same("14 at most 20", x.protectedSeats(0, 1), 20);
        for (int leg : NO_LEGS) {
            Check.noSuch("14 leg", () -> x.protectedSeats(leg, 0));
        }
        for (int fare : new int[] {Integer.MIN_VALUE, -1, 0, 1001, Integer.MAX_VALUE}) {
            Check.outOfRange("14 fare", () -> x.protectedSeats(0, fare));
        }
    }

    private static void worths(String what, Nestedfare x, int due) {
        Check.same("15 " + what, x.worth(), due);
        Check.same("16 " + what, x.worthByTable(), due);
    }

    private static void promises15And16() {
        Nestedfare x = Given.with(1, 1, 1);
        worths("no products", x, 0);
        x.addProduct(0, 2, 100);
        worths("none expected", x, 0);
        x.setExpected(0, 5);
        worths("one over all legs", x, 100);
        x.addProduct(0, 0, 30);
        x.addProduct(1, 1, 30);
        x.addProduct(2, 2, 30);
        for (int p = 1; p <= 3; p++) {
            x.setExpected(p, 1);
        }
        worths("three of one leg are less", x, 100);
        x.addProduct(1, 2, 71);
        x.setExpected(4, 1);
        worths("two products are more", x, 101);
        x.setSeats(2, 1, 2);
        worths("the ends too", x, 160);
        x.setSeats(2, 0, 2);
        worths("no middle leg", x, 60);
        x.setSeats(0, 0, 0);
        worths("no seats", x, 0);
    }

    private static void promises15And16OfThoseToCome() {
        Nestedfare x = Given.with(10, 0, 0);
        x.addProduct(0, 0, 50);
        x.setExpected(0, 3);
        worths("three to come", x, 150);
        x.ask(0);
        worths("who has asked comes no more", x, 100);
        x.cancel(0);
        worths("nor who has cancelled", x, 100);
        Given.askOften(x, 0, 3);
        worths("more have asked than were expected", x, 0);
        x.setExpected(0, 5);
        worths("one of five", x, 50);
        x.endDay(100);
        worths("a new day, four expected", x, 200);
    }

    private static void promises15And16OfManyProducts() {
        Nestedfare x = Given.with(10, 10, 10);
        x.addProduct(0, 1, 40);
        x.addProduct(0, 1, 90);
        x.addProduct(0, 1, 60);
        x.setExpected(0, 20);
        x.setExpected(1, 4);
        x.setExpected(2, 3);
        worths("the dearest first", x, 4 * 90 + 3 * 60 + 3 * 40);
        x.addProduct(0, 0, 45);
        x.setExpected(3, 20);
        worths("dearer ones of one leg", x, 4 * 90 + 3 * 60 + 3 * 45);
        x.addProduct(1, 2, 50);
        x.setExpected(4, 20);
        worths("two that cross are more than one of both legs", x, 10 * 45 + 10 * 50);
        x.group(0, 2, 6, 3000);
        worths("four left", x, 4 * 45 + 4 * 50);
        x.setSeats(5, 10, 10);
        worths("none left on leg 0", x, 4 * 50);
    }

    private static void promise17() {
        Nestedfare x = Given.with(0, 1, 10);
        x.addProduct(0, 0, 80);
        x.addProduct(0, 1, 200);
        x.addProduct(2, 2, 5);
        x.setExpected(0, 1);
        x.setExpected(1, 1);
        x.setExpected(2, 20);
        Check.same("17 a seat where none is", x.bid(0), 200);
        Check.same("17 no use without the other leg", x.bid(1), 0);
        Check.same("17 an eleventh seat", x.bid(2), 5);
        x.setExpected(2, 10);
        Check.same("17 nobody for an eleventh", x.bid(2), 0);
        x.setSeats(1, 1, 0);
        Check.same("17 the next one", x.bid(0), 80);
        x.group(0, 0, 1, 3000);
        x.setSeats(0, 1, 0);
        Check.same("17 more booked than seats", x.bid(0), 200);
        for (int leg : NO_LEGS) {
            Check.noSuch("17 leg", () -> x.bid(leg));
        }
    }

    private static void promise18() {
        Nestedfare x = Given.with(2, 3, 10);
        x.addProduct(0, 1, 70);
        x.addProduct(1, 1, 20);
        x.addProduct(2, 2, 9);
        x.setExpected(0, 2);
        x.setExpected(1, 2);
        x.setExpected(2, 10);
        Check.same("18 the cheapest one", x.displaced(1, 1, 1), 20);
        Check.same("18 two", x.displaced(1, 1, 2), 90);
        Check.same("18 all", x.displaced(1, 1, 3), 160);
        Check.same("18 both legs", x.displaced(0, 1, 2), 140);
        Check.same("18 leg 0 alone", x.displaced(0, 0, 1), 50);
        Check.same("18 all legs", x.displaced(0, 2, 2), 158);
        Check.same("18 ten seats", x.displaced(2, 2, 10), 90);
        Check.same("18 full on leg 0", x.displaced(0, 2, 3), Nestedfare.FULL);
        Check.same("18 full on leg 1", x.displaced(1, 2, 4), Nestedfare.FULL);
        x.setExpected(0, 4);
        Check.same("18 more to come than seats", x.displaced(0, 1, 1), 70);
        x.setExpected(0, 2);
        Check.same("18 asking is no refusal", x.refused(Nestedfare.FULL), 0);
        x.setRate(50);
        Check.same("18 left, not authorised", x.displaced(0, 0, 3), Nestedfare.FULL);
        for (int leg : NO_LEGS) {
            Check.noSuch("18 first", () -> x.displaced(leg, 0, 0));
            Check.noSuch("18 last", () -> x.displaced(2, leg, 0));
        }
        Check.outOfRange("18 order", () -> x.displaced(2, 0, 1));
        for (int seats : new int[] {Integer.MIN_VALUE, -1, 0, 11, Integer.MAX_VALUE}) {
            Check.outOfRange("18 seats", () -> x.displaced(0, 0, seats));
        }
    }

    private static void promises19To21() {
        Nestedfare x = Given.with(1, 1, 1);
        x.addProduct(0, 0, 10);
        x.addProduct(1, 1, 10);
        Check.same("19 0 at first", x.expected(0), 0);
        x.setExpected(1, 4);
        Check.same("19 as set", x.expected(1), 4);
        Check.sameFloat("20 without past days", x.average(0), 0.0f);
        Given.askOften(x, 0, 41);
        Check.same("19 asking leaves it", x.expected(1), 4);
        Check.same("21 all who asked, refused ones too", x.asked(0), 41);
        Check.same("21 the other one", x.asked(1), 0);
        Check.sameFloat("20 today does not count", x.average(0), 0.0f);
        x.endDay(100);
        Check.sameFloat("20 of one day", x.average(0), 41.0f);
        Check.same("19 learnt", x.expected(1), 0);
        x.endDay(100);
        x.endDay(100);
        Check.sameFloat("20 of three days", x.average(0), 41.0f / 3.0f);
        Check.same("19 rounded down", x.expected(0), 13);
        Check.same("21 a new day", x.asked(0), 0);
        for (int wrong : new int[] {Integer.MIN_VALUE, -1, 2, 7, 8, Integer.MAX_VALUE}) {
            Check.noSuch("19 product", () -> x.expected(wrong));
            Check.noSuch("20 product", () -> (long) x.average(wrong));
            Check.noSuch("21 product", () -> x.asked(wrong));
        }
    }

    private static void promise22() {
        Nestedfare x = Given.with(1, 2, 1);
        x.addProduct(0, 0, 10);
        x.addProduct(1, 1, 50);
        x.addProduct(1, 1, 10);
        Given.askOften(x, 0, 3);
        x.group(0, 0, 1, 5);
        Given.askOften(x, 1, 2);
        Check.same("22 full", x.refused(Nestedfare.FULL), 3);
        x.endDay(100);
        x.ask(2);
        Check.same("22 protected", x.refused(Nestedfare.PROTECTED), 1);
        x.group(1, 1, 1, 1);
        Check.same("22 below, a group", x.refused(Nestedfare.BELOW), 1);
        Check.same("22 full on all days", x.refused(Nestedfare.FULL), 3);
        for (int why : new int[] {Integer.MIN_VALUE, -4, 0, 1, Integer.MAX_VALUE}) {
            Check.outOfRange("22 why", () -> x.refused(why));
        }
    }

    private static void promises23And24() {
        Nestedfare x = Given.with(10, 10, 10);
        x.addProduct(0, 2, 1000);
        Given.askOften(x, 0, 2);
        x.group(0, 2, 4, 2500);
        Check.same("23 added up", x.revenue(), 12000);
        Check.same("24 not yet", x.earned(), 0);
        x.cancel(1);
        Check.same("23 less the cancelled", x.revenue(), 11000);
        x.endDay(0);
        Check.same("23 of today alone", x.revenue(), 0);
        Check.same("24 of a past day", x.earned(), 11000);
        x.setExpected(0, 0);
        for (int day = 0; day < 4; day++) {
            for (int i = 0; i < 40; i++) {
                x.group(0, 0, 10, 3000);
                x.cancel(i);
            }
            x.group(0, 0, 10, 3000);
            Check.same("23 one of many", x.revenue(), 30000);
            x.endDay(100);
        }
        Check.same("24 added up", x.earned(), 131000);
    }

    private static void questionsChangeNothing() {
        Nestedfare x = Given.with(4, 3, 2);
        x.addProduct(0, 2, 90);
        x.addProduct(1, 1, 40);
        x.setExpected(0, 2);
        x.setExpected(1, 3);
        x.ask(0);
        String before = Answers.of(x);
        Check.same("questions change nothing", Answers.of(x), before);
    }
}
