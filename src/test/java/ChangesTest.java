/** Promises 1 to 9: what changes something. */
public final class ChangesTest {
    private static final int[] EDGES = {Integer.MIN_VALUE, -1, 3, Integer.MAX_VALUE};

    public static void main(String[] args) {
        promise1();
        promise2();
        promise3();
        promise3TellsTheFirstExceptionNamed();
        promise4();
        promise5();
        promise6Books();
        promise6Full();
        promise6Protected();
        promise6Below();
        promise6Throws();
        promise7();
        promise7Below();
        promise7Throws();
        promise8();
        promise9Denied();
        promise9Learns();
        promise9Throws();
        Check.finish();
    }

    private static void promise1() {
        Nestedfare x = new Nestedfare();
        Check.same("1 products", x.products(), 0);
        Check.same("1 days", x.days(), 0);
        Check.same("1 revenue", x.revenue(), 0);
        Check.same("1 earned", x.earned(), 0);
        Check.same("1 worth", x.worth(), 0);
        Check.same("1 worthByTable", x.worthByTable(), 0);
        for (int leg = 0; leg < 3; leg++) {
            Check.same("1 booked", x.booked(leg), 0);
            Check.same("1 authorised", x.authorised(leg), 0);
            Check.same("1 bid", x.bid(leg), 0);
            Check.same("1 protectedSeats", x.protectedSeats(leg, 1), 0);
            Check.same("1 displaced", x.displaced(leg, leg, 1), Nestedfare.FULL);
        }
        for (int why = Nestedfare.BELOW; why <= Nestedfare.FULL; why++) {
            Check.same("1 refused", x.refused(why), 0);
        }
        Check.same("1 rate", x.setRate(100), 100);
        Check.noSuch("1 product 0", () -> x.asked(0));
        Check.noSuch("1 booking 0", () -> x.cancel(0));
    }

    private static void promise2() {
        Nestedfare x = Given.with(10, 0, 7);
        Check.same("2 leg 0", x.authorised(0), 10);
        Check.same("2 leg 1", x.authorised(1), 0);
        Check.same("2 leg 2", x.authorised(2), 7);
        x.group(0, 0, 6, 5);
        x.setSeats(2, 1, 3);
        Check.same("2 bookings stay", x.booked(0), 6);
        Check.same("2 revenue stays", x.revenue(), 30);
        Check.same("2 left at least 0", x.displaced(0, 0, 1), Nestedfare.FULL);
        String before = Answers.of(x);
        int[] wrongs = {Integer.MIN_VALUE, -1, 11, Integer.MAX_VALUE};
        for (int wrong : wrongs) {
            Check.outOfRange("2 first", () -> { x.setSeats(wrong, 5, 5); return 0; });
            Check.outOfRange("2 second", () -> { x.setSeats(5, wrong, 5); return 0; });
            Check.outOfRange("2 third", () -> { x.setSeats(5, 5, wrong); return 0; });
        }
        Check.same("2 a throw changes nothing", Answers.of(x), before);
    }

    private static void promise3() {
        Nestedfare x = Given.with(3, 3, 3);
        Check.same("3 number 0", x.addProduct(0, 2, 1), 0);
        Check.same("3 number 1", x.addProduct(0, 2, 1000), 1);
        Check.same("3 one leg", x.addProduct(1, 1, 1000), 2);
        Check.same("3 the same fare, other legs", x.addProduct(0, 1, 1000), 3);
        Check.same("3 products", x.products(), 4);
        Check.notNow("3 twice", () -> x.addProduct(0, 2, 1));
        Check.notNow("3 twice, the last", () -> x.addProduct(0, 1, 1000));
        Check.same("3 products still", x.products(), 4);
        for (int fare = 1; fare <= 4; fare++) {
            Check.same("3 more", x.addProduct(2, 2, fare), 3 + fare);
        }
        Check.notNow("3 a ninth", () -> x.addProduct(2, 2, 5));
        Check.same("3 eight", x.products(), 8);
        Check.noSuch("3 product 8", () -> x.expected(8));
    }

    private static void promise3TellsTheFirstExceptionNamed() {
        Nestedfare x = Given.with(3, 3, 3);
        for (int edge : EDGES) {
            Check.noSuch("3 first", () -> x.addProduct(edge, 2, 0));
            Check.noSuch("3 last", () -> x.addProduct(0, edge, 0));
        }
        int[] fares = {Integer.MIN_VALUE, -1, 0, 1001, Integer.MAX_VALUE};
        for (int fare : fares) {
            Check.outOfRange("3 fare", () -> x.addProduct(0, 0, fare));
        }
        Check.outOfRange("3 order", () -> x.addProduct(2, 1, 5));
        Check.same("3 none yet", x.products(), 0);
        for (int fare = 1; fare <= 8; fare++) {
            x.addProduct(0, 0, fare);
        }
        Check.noSuch("3 no leg, and eight", () -> x.addProduct(3, 0, 5));
        Check.outOfRange("3 fare, and eight", () -> x.addProduct(0, 0, 1001));
    }

    private static void promise4() {
        Nestedfare x = Given.with(2, 2, 2);
        x.addProduct(0, 0, 50);
        Check.same("4 from 0", x.setExpected(0, 20), 0);
        Check.same("4 from 20", x.setExpected(0, 1), 20);
        Check.same("4 worth follows", x.worth(), 50);
        Check.same("4 from 1", x.setExpected(0, 0), 1);
        Check.same("4 worth of none", x.worth(), 0);
        Check.noSuch("4 product -1", () -> x.setExpected(-1, 21));
        Check.noSuch("4 product 1", () -> x.setExpected(1, 21));
        Check.noSuch("4 product 8", () -> x.setExpected(8, 5));
        Check.outOfRange("4 many -1", () -> x.setExpected(0, -1));
        Check.outOfRange("4 many 21", () -> x.setExpected(0, 21));
        Check.same("4 unchanged", x.expected(0), 0);
        Given.askOften(x, 0, 30);
        x.endDay(0);
        Check.same("4 more than 20 were learnt", x.setExpected(0, 3), 30);
        Check.same("4 set over the learnt ones", x.expected(0), 3);
    }

    private static void promise5() {
        Nestedfare x = Given.with(10, 7, 1);
        Check.same("5 from 100", x.setRate(50), 100);
        Check.same("5 half more", x.authorised(0), 15);
        Check.same("5 from 50", x.setRate(75), 50);
        Check.outOfRange("5 rate 49", () -> x.setRate(49));
        Check.outOfRange("5 rate 101", () -> x.setRate(101));
        Check.outOfRange("5 rate least", () -> x.setRate(Integer.MIN_VALUE));
        Check.same("5 from 75", x.setRate(100), 75);
        x.endDay(0);
        x.setRate(60);
        x.endDay(0);
        Check.same("5 stays over the days", x.setRate(60), 60);
    }

    private static void promise6Books() {
        Nestedfare x = Given.with(3, 3, 3);
        x.addProduct(0, 1, 40);
        x.addProduct(2, 2, 7);
        Check.same("6 booking 0", x.ask(0), 0);
        Check.same("6 booking 1", x.ask(1), 1);
        Check.same("6 leg 0", x.booked(0), 1);
        Check.same("6 leg 1", x.booked(1), 1);
        Check.same("6 leg 2", x.booked(2), 1);
        Check.same("6 revenue", x.revenue(), 47);
        Check.same("6 asked 0", x.asked(0), 1);
        x.cancel(0);
        Check.same("6 numbers go on", x.ask(0), 2);
        x.endDay(100);
        Check.same("6 numbers from 0 each day", x.ask(0), 0);
    }

    private static void promise6Full() {
        Nestedfare x = Given.with(4, 1, 4);
        x.addProduct(0, 2, 40);
        x.addProduct(0, 0, 10);
        Check.same("6 takes the one seat", x.ask(0), 0);
        Check.same("6 full on the middle leg", x.ask(0), Nestedfare.FULL);
        Check.same("6 the refused one has asked", x.asked(0), 2);
        Check.same("6 refused", x.refused(Nestedfare.FULL), 1);
        Check.same("6 nothing booked", x.booked(0), 1);
        x.setRate(50);
        Check.same("6 half a seat is none", x.ask(0), Nestedfare.FULL);
        x.setSeats(4, 2, 4);
        Check.same("6 seat 2", x.ask(0), 1);
        Check.same("6 overbooked", x.ask(0), 2);
        Check.same("6 no more than authorised", x.ask(0), Nestedfare.FULL);
        x.setSeats(0, 0, 0);
        Check.same("6 more booked than authorised", x.ask(1), Nestedfare.FULL);
    }

    private static void promise6Protected() {
        Nestedfare x = Given.with(3, 3, 3);
        x.addProduct(0, 0, 100);
        x.addProduct(0, 2, 60);
        x.addProduct(0, 0, 60);
        Given.askOften(x, 0, 2);
        x.endDay(100);
        x.setExpected(0, 0);
        Check.same("6 protected on leg 0", x.protectedSeats(0, 60), 2);
        Check.same("6 one seat above", x.ask(1), 0);
        Check.same("6 none above", x.ask(1), Nestedfare.PROTECTED);
        Check.same("6 none above on one leg", x.ask(2), Nestedfare.PROTECTED);
        Check.same("6 refused so", x.refused(Nestedfare.PROTECTED), 2);
        Check.same("6 the dear one still gets it", x.ask(0), 1);
        x.setRate(60);
        Check.same("6 authorised, not seats", x.authorised(0), 4);
        Check.same("6 still none above", x.ask(2), Nestedfare.PROTECTED);
        x.setRate(50);
        x.setSeats(4, 3, 3);
        Check.same("6 authorised 6", x.ask(2), 2);
        x.setSeats(2, 3, 3);
        Check.same("6 full comes first", x.ask(2), Nestedfare.FULL);
    }

    private static void promise6Below() {
        Nestedfare x = Given.with(1, 1, 2);
        x.addProduct(0, 1, 99);
        x.addProduct(0, 0, 60);
        x.addProduct(1, 1, 40);
        x.setExpected(1, 3);
        x.setExpected(2, 3);
        Check.same("6 bid 0", x.bid(0), 60);
        Check.same("6 bid 1", x.bid(1), 40);
        Check.same("6 99 is below 60 and 40", x.ask(0), Nestedfare.BELOW);
        Check.same("6 refused so", x.refused(Nestedfare.BELOW), 1);
        Check.same("6 counted", x.asked(0), 1);
        Check.same("6 as much is not below", x.ask(1), 0);
        Check.same("6 the next day's fare", x.addProduct(0, 2, 100), 3);
        x.cancel(0);
        Check.same("6 100 is not below 100", x.ask(3), 1);

        Nestedfare y = Given.with(1, 0, 0);
        y.addProduct(0, 0, 10);
        y.addProduct(0, 0, 70);
        y.setExpected(1, 1);
        Check.same("6 a seat more is worth nothing", y.ask(0), 0);
        Check.same("6 who asks comes no more", y.ask(1), Nestedfare.FULL);
        Check.same("6 none to come", y.worth(), 0);

        Nestedfare z = Given.with(1, 0, 0);
        z.addProduct(0, 0, 10);
        z.setExpected(0, 1);
        Check.same("6 the passenger counted first", z.ask(0), 0);

        Nestedfare full = Given.with(1, 0, 0);
        full.addProduct(0, 0, 10);
        full.addProduct(0, 0, 70);
        full.setExpected(1, 2);
        Check.same("6 below for one of one seat", full.ask(0), Nestedfare.BELOW);
    }

    private static void promise6Throws() {
        Nestedfare x = Given.with(10, 10, 10);
        x.addProduct(0, 0, 10);
        String before = Answers.of(x);
        for (int wrong : new int[] {Integer.MIN_VALUE, -1, 1, 7, 8, Integer.MAX_VALUE}) {
            Check.noSuch("6 product", () -> x.ask(wrong));
        }
        Check.same("6 a throw changes nothing", Answers.of(x), before);
        for (int i = 0; i < 60; i++) {
            Check.same("6 booking of sixty", x.ask(0), i);
            x.cancel(i);
        }
        String full = Answers.of(x);
        Check.notNow("6 sixty bookings, all cancelled", () -> x.ask(0));
        Check.noSuch("6 no product comes first", () -> x.ask(1));
        Check.same("6 nothing counted", Answers.of(x), full);
        x.endDay(0);
        Check.same("6 a new day", x.ask(0), 0);
    }

    private static void promise7() {
        Nestedfare x = Given.with(4, 5, 6);
        x.addProduct(0, 2, 1);
        Check.same("7 booking", x.group(0, 2, 3, 10), 0);
        Check.same("7 leg 0", x.booked(0), 3);
        Check.same("7 leg 1", x.booked(1), 3);
        Check.same("7 leg 2", x.booked(2), 3);
        Check.same("7 the fares once for all legs", x.revenue(), 30);
        Check.same("7 one more", x.group(0, 0, 1, 3000), 1);
        Check.same("7 full", x.group(0, 0, 1, 3000), Nestedfare.FULL);
        Check.same("7 full on the last leg", x.group(1, 2, 3, 1), Nestedfare.FULL);
        Check.same("7 refused so", x.refused(Nestedfare.FULL), 2);
        Check.same("7 as many as are left", x.group(2, 2, 3, 1), 2);
        Check.same("7 not counted as asking", x.asked(0), 0);
        x.setRate(50);
        Check.same("7 left seats, not authorised ones", x.group(0, 0, 1, 1), Nestedfare.FULL);
        x.endDay(100);
        Check.sameFloat("7 not in the tables", x.average(0), 0.0f);
        Check.same("7 ten seats", x.group(1, 1, 5, 1), 0);
        x.setSeats(10, 10, 10);
        Check.same("7 dearest", x.group(0, 0, 10, 3000), 1);
        Check.same("7 sum", x.revenue(), 30005);
    }

    private static void promise7Below() {
        Nestedfare x = Given.with(3, 3, 3);
        x.addProduct(0, 0, 100);
        x.addProduct(1, 1, 51);
        x.setExpected(0, 2);
        x.setExpected(1, 3);
        Check.same("7 displaces", x.displaced(0, 1, 2), 202);
        Check.same("7 below", x.group(0, 1, 2, 100), Nestedfare.BELOW);
        Check.same("7 refused so", x.refused(Nestedfare.BELOW), 1);
        Check.same("7 nothing booked", x.booked(0), 0);
        Check.same("7 as much is enough", x.group(0, 1, 2, 101), 0);
        Check.same("7 not to be protected from", x.refused(Nestedfare.PROTECTED), 0);
        Check.same("7 what is left", x.worth(), 151);
    }

    private static void promise7Throws() {
        Nestedfare x = Given.with(10, 10, 10);
        x.addProduct(0, 0, 10);
        String before = Answers.of(x);
        for (int edge : EDGES) {
            Check.noSuch("7 first", () -> x.group(edge, 0, 0, 0));
            Check.noSuch("7 last", () -> x.group(2, edge, 0, 0));
        }
        Check.outOfRange("7 order", () -> x.group(1, 0, 1, 1));
        for (int seats : new int[] {Integer.MIN_VALUE, -1, 0, 11, Integer.MAX_VALUE}) {
            Check.outOfRange("7 seats", () -> x.group(0, 0, seats, 1));
        }
        for (int fare : new int[] {Integer.MIN_VALUE, -1, 0, 3001, Integer.MAX_VALUE}) {
            Check.outOfRange("7 fare", () -> x.group(0, 0, 1, fare));
        }
        Check.same("7 a throw changes nothing", Answers.of(x), before);
        for (int i = 0; i < 60; i++) {
            Check.same("7 booking of sixty", x.group(0, 2, 10, 1), i);
            x.cancel(i);
        }
        Check.notNow("7 sixty bookings", () -> x.group(0, 0, 1, 1));
        Check.notNow("7 asking too", () -> x.ask(0));
        Check.outOfRange("7 seats come first", () -> x.group(0, 0, 11, 1));
        Check.noSuch("7 legs come first", () -> x.group(0, 3, 1, 1));
        x.setSeats(0, 0, 0);
        Check.notNow("7 sixty bookings, and full", () -> x.group(0, 0, 1, 1));
        Check.same("7 not refused", x.refused(Nestedfare.FULL), 0);
    }

    private static void promise8() {
        Nestedfare x = Given.with(10, 10, 10);
        x.addProduct(0, 1, 30);
        x.ask(0);
        x.group(1, 2, 4, 5);
        x.ask(0);
        Check.same("8 a group's seats on each leg", x.cancel(1), 4);
        Check.same("8 leg 1", x.booked(1), 2);
        Check.same("8 leg 2", x.booked(2), 0);
        Check.same("8 revenue", x.revenue(), 60);
        Check.same("8 a passenger's seat", x.cancel(0), 1);
        Check.same("8 who cancels has asked", x.asked(0), 2);
        String before = Answers.of(x);
        Check.notNow("8 twice", () -> x.cancel(0));
        for (int wrong : new int[] {Integer.MIN_VALUE, -1, 3, 59, 60, Integer.MAX_VALUE}) {
            Check.noSuch("8 booking", () -> x.cancel(wrong));
        }
        Check.same("8 a throw changes nothing", Answers.of(x), before);
        x.endDay(100);
        Check.noSuch("8 the first of yesterday", () -> x.cancel(0));
        Check.noSuch("8 of yesterday", () -> x.cancel(2));
        x.ask(0);
        Check.same("8 a new booking 0", x.cancel(0), 1);
    }

    private static void promise9Denied() {
        Nestedfare x = Given.with(10, 10, 10);
        x.addProduct(0, 0, 7);
        x.group(0, 2, 9, 100);
        x.ask(0);
        x.setSeats(7, 7, 8);
        x.setRate(50);
        Check.same("9 eight of ten and nine show up", x.endDay(80), 1 + 1);
        Check.same("9 100 for each who is denied", x.earned(), 907 - 200);
        Check.same("9 nobody booked", x.booked(0), 0);
        Check.same("9 no revenue", x.revenue(), 0);
        Check.same("9 a day", x.days(), 1);
        Check.same("9 refusals stay", x.refused(Nestedfare.FULL), 0);

        Nestedfare y = Given.with(10, 0, 0);
        y.group(0, 0, 10, 1);
        y.group(0, 0, 1, 1);
        y.setSeats(0, 0, 0);
        Check.same("9 one percent of ten, rounded up", y.endDay(1), 1);
        Check.same("9 earnings below 0", y.earned(), -90);
        Check.same("9 refusals stay over the day", y.refused(Nestedfare.FULL), 1);
        y.setSeats(5, 5, 5);
        y.group(0, 2, 5, 3);
        y.cancel(0);
        y.group(0, 0, 2, 4);
        Check.same("9 seats enough", y.endDay(100), 0);
        Check.same("9 the cancelled pay nothing", y.earned(), -82);
        y.group(0, 2, 5, 1);
        y.setSeats(0, 0, 0);
        Check.same("9 none shows up", y.endDay(0), 0);
        Check.same("9 they pay all the same", y.earned(), -77);
        y.setSeats(5, 5, 5);
        y.group(0, 2, 5, 1);
        y.setSeats(3, 4, 5);
        Check.same("9 on all legs together", y.endDay(100), 3);
        Check.same("9 added up", y.earned(), -77 + 5 - 300);
        y.group(0, 0, 3, 1);
        y.setSeats(2, 2, 2);
        Check.same("9 67 percent of three are 2.01, so three", y.endDay(67), 1);
        y.setSeats(3, 3, 3);
        y.group(0, 0, 3, 1);
        y.setSeats(2, 2, 2);
        Check.same("9 66 percent of three are two", y.endDay(66), 0);
    }

    private static void promise9Learns() {
        Nestedfare x = Given.with(10, 10, 10);
        x.addProduct(0, 0, 100);
        x.addProduct(1, 2, 100);
        x.setExpected(1, 20);
        Given.askOften(x, 0, 3);
        x.endDay(100);
        Check.same("9 expected as asked", x.expected(0), 3);
        Check.same("9 nobody asked", x.expected(1), 0);
        Check.same("9 asked anew", x.asked(0), 0);
        Given.askOften(x, 0, 2);
        x.endDay(100);
        Check.same("9 two and a half, rounded down", x.expected(0), 2);
        Check.sameFloat("9 two and a half", x.average(0), 2.5f);
        x.addProduct(2, 2, 100);
        Given.askOften(x, 2, 7);
        x.endDay(100);
        Check.same("9 added later, nobody before", x.expected(2), 2);
        Check.same("9 protected as on one day of three", x.protectedSeats(2, 34), 0);
        Check.same("9 protected as on one day of three", x.protectedSeats(2, 33), 7);
        Check.same("9 5 of three days", x.expected(0), 1);
        Given.askOften(x, 0, 35);
        x.endDay(100);
        Check.same("9 more than 20 count whole", x.expected(0), 10);
        Check.same("9 20 stands for more", x.protectedSeats(0, 1), 20);
    }

    private static void promise9Throws() {
        Nestedfare x = Given.with(10, 10, 10);
        x.addProduct(0, 0, 100);
        x.ask(0);
        String before = Answers.of(x);
        for (int shows : new int[] {Integer.MIN_VALUE, -1, 101, Integer.MAX_VALUE}) {
            Check.outOfRange("9 shows", () -> x.endDay(shows));
        }
        Check.same("9 a throw changes nothing", Answers.of(x), before);
        Check.same("9 the booking still stands", x.cancel(0), 1);
    }
}
