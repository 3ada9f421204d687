import java.util.Arrays;

/** A seat controller of three legs in a row; ../shared/DOC.md tells what each call promises. */
public final class Nestedfare {
    public static final int FULL = -1, PROTECTED = -2, BELOW = -3;

    private static final int LEGS = 3;
    private static final int SEATS_MOST = 10;
    private static final int PRODUCTS_MOST = 8;
    private static final int BOOKINGS_MOST = 60;
    private static final int FARE_MOST = 1000;
    private static final int GROUP_FARE_MOST = 3000;
    private static final int EXPECTED_MOST = 20;
    private static final int COUNTED_MOST = 20;
    private static final int RATE_LEAST = 50;
    private static final int PERCENT = 100;
    private static final int COST_OF_DENIED = 100;

    /** One more than the seats of a leg: a bid price asks for the worth with one seat more left. */
    private static final int LEFT_MOST = SEATS_MOST + 1;

    private final int[] seats = new int[LEGS];
    private final Product[] offered = new Product[PRODUCTS_MOST];
    private final Product[] dearestFirst = new Product[PRODUCTS_MOST];
    private final Booking[] bookings = new Booking[BOOKINGS_MOST];
    private final Demand demand = new Demand();
    private final SeatTable table = new SeatTable();
    private int offeredCount = 0;
    private int bookingCount = 0;
    private int pastDays = 0;
    private int showRate = PERCENT;
    private int refusedFull = 0;
    private int refusedProtected = 0;
    private int refusedBelow = 0;
    private long earnedBefore = 0;

    public Nestedfare() {
    }

    // ---- what changes something

    public void setSeats(int first, int second, int third) throws IllegalArgumentException {
        if (!within(first, 0, SEATS_MOST) || !within(second, 0, SEATS_MOST) || !within(third, 0, SEATS_MOST)) {
            throw new IllegalArgumentException("a leg has 0 to 10 seats");
        }
        putSeats(0, first);
        putSeats(1, second);
        putSeats(2, third);
    }

    public int addProduct(int first, int last, int fare)
            throws IndexOutOfBoundsException, IllegalArgumentException, IllegalStateException {
        if (!isLeg(first) || !isLeg(last)) {
            throw new IndexOutOfBoundsException("there is no such leg");
        }
        if (last < first || !within(fare, 1, FARE_MOST)) {
            throw new IllegalArgumentException("the legs are in the wrong order, or the fare is out of range");
        }
        if (offeredCount >= PRODUCTS_MOST || isOffered(first, last, fare)) {
            throw new IllegalStateException("there are 8 products, or there is this one");
        }
        int number = offeredCount;
        offer(new Product(first, last, fare, pastDays));
        return number;
    }

    public int setExpected(int product, int many) throws IndexOutOfBoundsException, IllegalArgumentException {
        Product chosen = productAt(product);
        if (chosen == null) {
            throw new IndexOutOfBoundsException("there is no such product");
        }
        if (!within(many, 0, EXPECTED_MOST)) {
            throw new IllegalArgumentException("0 to 20 passengers can be expected");
        }
        int before = chosen.expectedToday;
        chosen.expectedToday = many;
        return before;
    }

    public int setRate(int rate) throws IllegalArgumentException {
        if (!within(rate, RATE_LEAST, PERCENT)) {
            throw new IllegalArgumentException("the show rate is 50 to 100");
        }
        int before = showRate;
        showRate = rate;
        return before;
    }

    public int ask(int product) throws IndexOutOfBoundsException, IllegalStateException {
        Product wanted = productAt(product);
        if (wanted == null) {
            throw new IndexOutOfBoundsException("there is no such product");
        }
        if (bookingCount >= BOOKINGS_MOST) {
            throw new IllegalStateException("there are 60 bookings");
        }
        wanted.askedToday++;
        if (isFull(wanted)) {
            return refuse(FULL);
        }
        if (isProtected(wanted)) {
            return refuse(PROTECTED);
        }
        if (wanted.fare < bidsOver(wanted.first, wanted.last)) {
            return refuse(BELOW);
        }
        return enter(new Booking(wanted.first, wanted.last, 1, wanted.fare));
    }

    public int group(int first, int last, int seats, int fare)
            throws IndexOutOfBoundsException, IllegalArgumentException, IllegalStateException {
        if (!isLeg(first) || !isLeg(last)) {
            throw new IndexOutOfBoundsException("there is no such leg");
        }
        if (last < first || !within(seats, 1, SEATS_MOST) || !within(fare, 1, GROUP_FARE_MOST)) {
            throw new IllegalArgumentException("the legs are in the wrong order, or seats or fare is out of range");
        }
        if (bookingCount >= BOOKINGS_MOST) {
            throw new IllegalStateException("there are 60 bookings");
        }
        if (!hasLeft(first, last, seats)) {
            return refuse(FULL);
        }
        int price = fare * seats;
        if (price < displacement(first, last, seats)) {
            return refuse(BELOW);
        }
        return enter(new Booking(first, last, seats, price));
    }

    public int cancel(int booking) throws IndexOutOfBoundsException, IllegalStateException {
        Booking chosen = bookingAt(booking);
        if (chosen == null) {
            throw new IndexOutOfBoundsException("there is no such booking");
        }
        if (chosen.cancelled) {
            throw new IllegalStateException("the booking is cancelled");
        }
        chosen.cancelled = true;
        return chosen.seats;
    }

    public int endDay(int shows) throws IllegalArgumentException {
        if (!within(shows, 0, PERCENT)) {
            throw new IllegalArgumentException("0 to 100 percent show up");
        }
        int denied = 0;
        for (int leg = 0; leg < LEGS; leg++) {
            denied += deniedOn(leg, shows);
        }
        earnedBefore += faresOfToday() - COST_OF_DENIED * denied;
        learn();
        bookingCount = 0;
        return denied;
    }

    // ---- questions

    public int products() {
        return offeredCount;
    }

    public int days() {
        return pastDays;
    }

    public int booked(int leg) throws IndexOutOfBoundsException {
        if (!isLeg(leg)) {
            throw new IndexOutOfBoundsException("there is no such leg");
        }
        return bookedOn(leg);
    }

    public int authorised(int leg) throws IndexOutOfBoundsException {
        if (!isLeg(leg)) {
            throw new IndexOutOfBoundsException("there is no such leg");
        }
        return authorisedOn(leg);
    }

    public int protectedSeats(int leg, int fare) throws IndexOutOfBoundsException, IllegalArgumentException {
        if (!isLeg(leg)) {
            throw new IndexOutOfBoundsException("there is no such leg");
        }
        if (!within(fare, 1, FARE_MOST)) {
            throw new IllegalArgumentException("a fare is 1 to 1000");
        }
        return protectedOn(leg, fare);
    }

    public int worth() {
        return worthWithMore(0, 0, 0);
    }

    public int worthByTable() {
        int left0 = leftOn(0);
        int left1 = leftOn(1);
        int left2 = leftOn(2);
        table.clear();
        for (Product product : offered) {
            if (product != null) {
                table.admit(product, left0, left1, left2);
            }
        }
        return table.valueOf(left0, left1, left2);
    }

    public int bid(int leg) throws IndexOutOfBoundsException {
        if (!isLeg(leg)) {
            throw new IndexOutOfBoundsException("there is no such leg");
        }
        return bidsOver(leg, leg);
    }

    public int displaced(int first, int last, int seats) throws IndexOutOfBoundsException, IllegalArgumentException {
        if (!isLeg(first) || !isLeg(last)) {
            throw new IndexOutOfBoundsException("there is no such leg");
        }
        if (last < first || !within(seats, 1, SEATS_MOST)) {
            throw new IllegalArgumentException("the legs are in the wrong order, or seats is out of range");
        }
        return hasLeft(first, last, seats) ? displacement(first, last, seats) : FULL;
    }

    public int expected(int product) throws IndexOutOfBoundsException {
        Product chosen = productAt(product);
        if (chosen == null) {
            throw new IndexOutOfBoundsException("there is no such product");
        }
        return chosen.expectedToday;
    }

    public float average(int product) throws IndexOutOfBoundsException {
        Product chosen = productAt(product);
        if (chosen == null) {
            throw new IndexOutOfBoundsException("there is no such product");
        }
        if (pastDays <= 0) {
            return 0.0f;
        }
        return (float) chosen.askedBefore / (float) pastDays;
    }

    public int asked(int product) throws IndexOutOfBoundsException {
        Product chosen = productAt(product);
        if (chosen == null) {
            throw new IndexOutOfBoundsException("there is no such product");
        }
        return chosen.askedToday;
    }

    public int refused(int why) throws IllegalArgumentException {
        switch (why) {
            case FULL:
                return refusedFull;
            case PROTECTED:
                return refusedProtected;
            case BELOW:
                return refusedBelow;
            default:
                throw new IllegalArgumentException("nothing is refused so");
        }
    }

    public int revenue() {
        return faresOfToday();
    }

    public long earned() {
        return earnedBefore;
    }

    // ---- legs

    private static boolean within(int number, int least, int most) {
        return number >= least && number <= most;
    }

    private static boolean isLeg(int leg) {
        return within(leg, 0, LEGS - 1);
    }

    private void putSeats(int leg, int many) {
        if (leg >= 0 && leg < seats.length) {
            seats[leg] = many;
        }
    }

    private int seatsOf(int leg) {
        return leg >= 0 && leg < seats.length ? seats[leg] : 0;
    }

    private int authorisedOn(int leg) {
        int own = seatsOf(leg);
        return own + own * (PERCENT - showRate) / PERCENT;
    }

    private int bookedOn(int leg) {
        int sum = 0;
        for (int i = 0; i < bookingCount; i++) {
            Booking booking = bookingAt(i);
            if (booking != null) {
                sum += booking.seatsOn(leg);
            }
        }
        return sum;
    }

    private int leftOn(int leg) {
        return Math.max(0, seatsOf(leg) - bookedOn(leg));
    }

    private boolean hasLeft(int first, int last, int many) {
        for (int leg = first; leg <= last; leg++) {
            if (leftOn(leg) < many) {
                return false;
            }
        }
        return true;
    }

    private int deniedOn(int leg, int shows) {
        int showing = (bookedOn(leg) * shows + PERCENT - 1) / PERCENT;
        return Math.max(0, showing - seatsOf(leg));
    }

    // ---- products

    private Product productAt(int number) {
        return number >= 0 && number < offered.length ? offered[number] : null;
    }

    private boolean isOffered(int first, int last, int fare) {
        for (Product product : offered) {
            if (product != null && product.first == first && product.last == last && product.fare == fare) {
                return true;
            }
        }
        return false;
    }

    private void offer(Product added) {
        int at = offeredCount;
        if (at < 0 || at >= offered.length || at >= dearestFirst.length) {
            return;
        }
        offered[at] = added;
        offeredCount++;
        while (at > 0 && dearestFirst[at - 1] != null && dearestFirst[at - 1].fare < added.fare) {
            dearestFirst[at] = dearestFirst[at - 1];
            at--;
        }
        dearestFirst[at] = added;
    }

    private int protectedOn(int leg, int fare) {
        int sum = 0;
        for (Product product : offered) {
            if (product != null && product.covers(leg) && product.fare > fare) {
                sum += product.protectedAgainst(fare, pastDays);
            }
        }
        return sum;
    }

    private void learn() {
        pastDays++;
        for (Product product : offered) {
            if (product != null) {
                product.learn(pastDays);
            }
        }
    }

    // ---- asking

    private boolean isFull(Product wanted) {
        for (int leg = wanted.first; leg <= wanted.last; leg++) {
            if (bookedOn(leg) >= authorisedOn(leg)) {
                return true;
            }
        }
        return false;
    }

    private boolean isProtected(Product wanted) {
        for (int leg = wanted.first; leg <= wanted.last; leg++) {
            if (authorisedOn(leg) - bookedOn(leg) - protectedOn(leg, wanted.fare) <= 0) {
                return true;
            }
        }
        return false;
    }

    private int refuse(int why) {
        if (why == FULL) {
            refusedFull++;
        } else if (why == PROTECTED) {
            refusedProtected++;
        } else {
            refusedBelow++;
        }
        return why;
    }

    // ---- bookings

    private Booking bookingAt(int number) {
        return number >= 0 && number < bookingCount && number < bookings.length ? bookings[number] : null;
    }

    private int enter(Booking booking) {
        int number = bookingCount;
        if (number >= 0 && number < bookings.length) {
            bookings[number] = booking;
            bookingCount++;
        }
        return number;
    }

    private int faresOfToday() {
        int sum = 0;
        for (int i = 0; i < bookingCount; i++) {
            Booking booking = bookingAt(i);
            if (booking != null && !booking.cancelled) {
                sum += booking.price;
            }
        }
        return sum;
    }

    // ---- worth

    /** The worth with so many seats more left on each leg from the first to the last one. */
    private int worthWithMore(int first, int last, int more) {
        demand.clear();
        for (Product product : dearestFirst) {
            if (product != null) {
                demand.add(product);
            }
        }
        int left0 = leftOn(0) + (within(0, first, last) ? more : 0);
        int left1 = leftOn(1) + (within(1, first, last) ? more : 0);
        int left2 = leftOn(2) + (within(2, first, last) ? more : 0);
        return demand.mostFor(left0, left1, left2);
    }

    private int bidsOver(int first, int last) {
        int now = worthWithMore(0, 0, 0);
        int sum = 0;
        for (int leg = first; leg <= last; leg++) {
            sum += worthWithMore(leg, leg, 1) - now;
        }
        return sum;
    }

    private int displacement(int first, int last, int many) {
        return worthWithMore(0, 0, 0) - worthWithMore(first, last, -many);
    }

    /** A product, with those who asked for it. */
    private static final class Product {
        private final int first;
        private final int last;
        private final int fare;
        private final int[] daysByAsked = new int[COUNTED_MOST + 1];
        private int expectedToday = 0;
        private int askedToday = 0;
        private int askedBefore = 0;

        private Product(int first, int last, int fare, int pastDays) {
            this.first = first;
            this.last = last;
            this.fare = fare;
            // Nobody asked for it on the days before it was added.
            this.daysByAsked[0] = pastDays;
        }

        private boolean covers(int leg) {
            return leg >= first && leg <= last;
        }

        private int toCome() {
            return Math.max(0, expectedToday - askedToday);
        }

        private int protectedAgainst(int lowerFare, int pastDays) {
            if (pastDays <= 0) {
                return 0;
            }
            long enough = (long) lowerFare * pastDays;
            long daysOfAsMany = 0;
            for (int many = daysByAsked.length - 1; many > 0; many--) {
                daysOfAsMany += daysByAsked[many];
                if (fare * daysOfAsMany >= enough) {
                    return many;
                }
            }
            return 0;
        }

        private void learn(int pastDays) {
            int counted = Math.min(askedToday, COUNTED_MOST);
            if (counted >= 0 && counted < daysByAsked.length) {
                daysByAsked[counted]++;
            }
            askedBefore += askedToday;
            askedToday = 0;
            if (pastDays > 0) {
                expectedToday = askedBefore / pastDays;
            }
        }
    }

    /** A booking of today, of a passenger or of a group. */
    private static final class Booking {
        private final int first;
        private final int last;
        private final int seats;
        private final int price;
        private boolean cancelled = false;

        private Booking(int first, int last, int seats, int price) {
            this.first = first;
            this.last = last;
            this.seats = seats;
            this.price = price;
        }

        private int seatsOn(int leg) {
            return !cancelled && leg >= first && leg <= last ? seats : 0;
        }
    }

    /** The passengers to come who go over the same legs, the dearest first. */
    private static final class Queue {
        private final int[] sums = new int[LEFT_MOST + 1];
        private int length = 0;

        /** Takes no more than there can be seats for: those behind them would never get one. */
        private void add(int fare, int many) {
            for (int i = 0; i < many && length >= 0 && length + 1 < sums.length; i++) {
                sums[length + 1] = sums[length] + fare;
                length++;
            }
        }

        private int mostFor(int left) {
            int served = left < length ? left : length;
            return served >= 0 && served < sums.length ? sums[served] : 0;
        }
    }

    /** All passengers to come. Those of one leg fill what those of several legs leave. */
    private static final class Demand {
        private final Queue leg0 = new Queue();
        private final Queue leg1 = new Queue();
        private final Queue leg2 = new Queue();
        private final Queue legs01 = new Queue();
        private final Queue legs12 = new Queue();
        private final Queue legs012 = new Queue();

        private void clear() {
            leg0.length = 0;
            leg1.length = 0;
            leg2.length = 0;
            legs01.length = 0;
            legs12.length = 0;
            legs012.length = 0;
        }

        /** The products have to be added with the dearest first. */
        private void add(Product product) {
            queueOf(product.first, product.last).add(product.fare, product.toCome());
        }

        private Queue queueOf(int first, int last) {
            if (first == 0) {
                return last == 0 ? leg0 : last == 1 ? legs01 : legs012;
            }
            if (first == 1) {
                return last == 1 ? leg1 : legs12;
            }
            return leg2;
        }

        private int mostFor(int left0, int left1, int left2) {
            int most = 0;
            int longest = Math.min(legs012.length, Math.min(left0, Math.min(left1, left2)));
            for (int n = 0; n <= longest; n++) {
                most = Math.max(most, legs012.mostFor(n) + mostOfShorter(left0 - n, left1 - n, left2 - n));
            }
            return most;
        }

        private int mostOfShorter(int left0, int left1, int left2) {
            int most = 0;
            int longest = Math.min(legs01.length, Math.min(left0, left1));
            for (int n = 0; n <= longest; n++) {
                int ahead = legs01.mostFor(n) + leg0.mostFor(left0 - n);
                most = Math.max(most, ahead + mostBehind(left1 - n, left2));
            }
            return most;
        }

        private int mostBehind(int left1, int left2) {
            int most = 0;
            int longest = Math.min(legs12.length, Math.min(left1, left2));
            for (int n = 0; n <= longest; n++) {
                most = Math.max(most, legs12.mostFor(n) + leg1.mostFor(left1 - n) + leg2.mostFor(left2 - n));
            }
            return most;
        }
    }

    /** The worth of each number of left seats, by the passengers to come that were admitted. */
    private static final class SeatTable {
        private static final int SIDE = SEATS_MOST + 1;

        private final int[] values = new int[SIDE * SIDE * SIDE];

        private static int cellOf(int left0, int left1, int left2) {
            return (left0 * SIDE + left1) * SIDE + left2;
        }

        private void clear() {
            Arrays.fill(values, 0);
        }

        /** More passengers than seats would change nothing. */
        private void admit(Product product, int left0, int left1, int left2) {
            int many = Math.min(product.toCome(), SEATS_MOST);
            for (int i = 0; i < many; i++) {
                admitOne(product, left0, left1, left2);
            }
        }

        /** From many seats to few, so that each cell counts the passenger but once. */
        private void admitOne(Product product, int left0, int left1, int left2) {
            int on0 = product.covers(0) ? 1 : 0;
            int on1 = product.covers(1) ? 1 : 0;
            int on2 = product.covers(2) ? 1 : 0;
            int step = cellOf(on0, on1, on2);
            for (int a = left0; a >= on0; a--) {
                for (int b = left1; b >= on1; b--) {
                    raiseRow(cellOf(a, b, on2), cellOf(a, b, left2), step, product.fare);
                }
            }
        }

        /** No calls in this loop: it runs a hundred thousand times for one full table. */
        private void raiseRow(int least, int most, int step, int fare) {
            if (least - step < 0 || step < 0 || most >= values.length) {
                return;
            }
            for (int cell = most; cell >= least; cell--) {
                int raised = values[cell - step] + fare;
                if (raised > values[cell]) {
                    values[cell] = raised;
                }
            }
        }

        private int valueOf(int left0, int left1, int left2) {
            int cell = cellOf(left0, left1, left2);
            return cell >= 0 && cell < values.length ? values[cell] : 0;
        }
    }
}
