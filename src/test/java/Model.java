import java.util.ArrayList;
import java.util.HashMap;
import java.util.List;
import java.util.Map;

/** The document's words written down once more, slowly and in another way, to compare runs with. */
final class Model {
    private static final class Sort {
        int first;
        int last;
        int fare;
        int expected;
        int today;
        List<Integer> past = new ArrayList<>();

        Sort copy() {
            Sort other = new Sort();
            other.first = first;
            other.last = last;
            other.fare = fare;
            other.expected = expected;
            other.today = today;
            other.past.addAll(past);
            return other;
        }
    }

    /** first, last, seats, sum of fares, 1 if it is cancelled */
    private final List<int[]> bookings = new ArrayList<>();
    private final List<Sort> sorts = new ArrayList<>();
    private final int[] seats = new int[3];
    private final int[] refused = new int[4];
    private int days = 0;
    private int rate = 100;
    private long earned = 0;

    /** Another model in the same state. */
    Model copy() {
        Model other = new Model();
        for (int[] b : bookings) {
            other.bookings.add(b.clone());
        }
        for (Sort s : sorts) {
            other.sorts.add(s.copy());
        }
        System.arraycopy(seats, 0, other.seats, 0, seats.length);
        System.arraycopy(refused, 0, other.refused, 0, refused.length);
        other.days = days;
        other.rate = rate;
        other.earned = earned;
        return other;
    }

    private static void legs(int... legs) {
        for (int leg : legs) {
            if (leg < 0 || leg > 2) {
                throw new IndexOutOfBoundsException();
            }
        }
    }

    private static void range(boolean holds) {
        if (!holds) {
            throw new IllegalArgumentException();
        }
    }

    private static void state(boolean holds) {
        if (!holds) {
            throw new IllegalStateException();
        }
    }

    private Sort sort(int product) {
        if (product < 0 || product >= sorts.size()) {
            throw new IndexOutOfBoundsException();
        }
        return sorts.get(product);
    }

    long setSeats(int a, int b, int c) {
        range(a >= 0 && a <= 10 && b >= 0 && b <= 10 && c >= 0 && c <= 10);
        seats[0] = a;
        seats[1] = b;
        seats[2] = c;
        return 0;
    }

    long addProduct(int first, int last, int fare) {
        legs(first, last);
        range(first <= last && fare >= 1 && fare <= 1000);
        state(sorts.size() < 8);
        for (Sort s : sorts) {
            state(s.first != first || s.last != last || s.fare != fare);
        }
        Sort s = new Sort();
        s.first = first;
        s.last = last;
        s.fare = fare;
        for (int day = 0; day < days; day++) {
            s.past.add(0);
        }
        sorts.add(s);
        return sorts.size() - 1;
    }

    long setExpected(int product, int many) {
        Sort s = sort(product);
        range(many >= 0 && many <= 20);
        int before = s.expected;
        s.expected = many;
        return before;
    }

    long setRate(int percent) {
        range(percent >= 50 && percent <= 100);
        int before = rate;
        rate = percent;
        return before;
    }

    long ask(int product) {
        Sort s = sort(product);
        state(bookings.size() < 60);
        s.today++;
        long bids = 0;
        boolean full = false;
        boolean kept = false;
        for (int leg = s.first; leg <= s.last; leg++) {
            full |= booked(leg) >= authorised(leg);
            kept |= authorised(leg) - booked(leg) - protectedSeats(leg, s.fare) <= 0;
            bids += bid(leg);
        }
        int come = full ? -1 : kept ? -2 : s.fare < bids ? -3 : 0;
        if (come < 0) {
            refused[-come]++;
            return come;
        }
        bookings.add(new int[] {s.first, s.last, 1, s.fare, 0});
        return bookings.size() - 1;
    }

    long group(int first, int last, int many, int fare) {
        legs(first, last);
        range(first <= last && many >= 1 && many <= 10 && fare >= 1 && fare <= 3000);
        state(bookings.size() < 60);
        long out = displaced(first, last, many);
        int come = out == -1 ? -1 : (long) fare * many < out ? -3 : 0;
        if (come < 0) {
            refused[-come]++;
            return come;
        }
        bookings.add(new int[] {first, last, many, fare * many, 0});
        return bookings.size() - 1;
    }

    long cancel(int booking) {
        if (booking < 0 || booking >= bookings.size()) {
            throw new IndexOutOfBoundsException();
        }
        int[] b = bookings.get(booking);
        state(b[4] == 0);
        b[4] = 1;
        return b[2];
    }

    long endDay(int shows) {
        range(shows >= 0 && shows <= 100);
        long denied = 0;
        for (int leg = 0; leg < 3; leg++) {
            long show = 0;
            while (show * 100 < booked(leg) * shows) {
                show++;
            }
            denied += show > seats[leg] ? show - seats[leg] : 0;
        }
        earned += revenue() - 100 * denied;
        bookings.clear();
        days++;
        for (Sort s : sorts) {
            s.past.add(s.today);
            s.today = 0;
            s.expected = (int) (total(s) / days);
        }
        return denied;
    }

    private static long total(Sort s) {
        long sum = 0;
        for (int many : s.past) {
            sum += many;
        }
        return sum;
    }

    long products() {
        return sorts.size();
    }

    long days() {
        return days;
    }

    long booked(int leg) {
        legs(leg);
        long sum = 0;
        for (int[] b : bookings) {
            if (b[4] == 0 && b[0] <= leg && leg <= b[1]) {
                sum += b[2];
            }
        }
        return sum;
    }

    long authorised(int leg) {
        legs(leg);
        return (long) Math.floor((seats[leg] * 100 + seats[leg] * (100 - rate)) / 100.0);
    }

    long protectedSeats(int leg, int fare) {
        legs(leg);
        range(fare >= 1 && fare <= 1000);
        long sum = 0;
        for (Sort s : sorts) {
            if (s.first <= leg && leg <= s.last && s.fare > fare && days > 0) {
                int greatest = 0;
                for (int y = 0; y <= 20; y++) {
                    int asMany = 0;
                    for (int many : s.past) {
                        asMany += many >= y ? 1 : 0;
                    }
                    if (s.fare * asMany >= fare * days) {
                        greatest = y;
                    }
                }
                sum += greatest;
            }
        }
        return sum;
    }

    private long left(int leg) {
        return Math.max(0, seats[leg] - booked(leg));
    }

    /** Every number of passengers of every product is tried. */
    private long most(int from, long a, long b, long c, Map<Long, Long> known) {
        if (from == sorts.size()) {
            return 0;
        }
        long key = ((from * 100L + a) * 100L + b) * 100L + c;
        Long had = known.get(key);
        if (had != null) {
            return had;
        }
        Sort s = sorts.get(from);
        long best = 0;
        for (int n = 0; n <= Math.max(0, s.expected - s.today); n++) {
            long x = a - (s.first == 0 ? n : 0);
            long y = b - (s.first <= 1 && s.last >= 1 ? n : 0);
            long z = c - (s.last == 2 ? n : 0);
            if (x >= 0 && y >= 0 && z >= 0) {
                best = Math.max(best, (long) n * s.fare + most(from + 1, x, y, z, known));
            }
        }
        known.put(key, best);
        return best;
    }

    long worth() {
        return most(0, left(0), left(1), left(2), new HashMap<>());
    }

    long worthByTable() {
        return worth();
    }

    long bid(int leg) {
        legs(leg);
        long more = most(0, left(0) + (leg == 0 ? 1 : 0), left(1) + (leg == 1 ? 1 : 0),
                left(2) + (leg == 2 ? 1 : 0), new HashMap<>());
        return more - worth();
    }

    long displaced(int first, int last, int many) {
        legs(first, last);
        range(first <= last && many >= 1 && many <= 10);
        long[] rest = {left(0), left(1), left(2)};
        for (int leg = first; leg <= last; leg++) {
            rest[leg] -= many;
            if (rest[leg] < 0) {
                return -1;
            }
        }
        return worth() - most(0, rest[0], rest[1], rest[2], new HashMap<>());
    }

    long expected(int product) {
        return sort(product).expected;
    }

    float average(int product) {
        Sort s = sort(product);
        return days == 0 ? 0.0f : (float) total(s) / (float) days;
    }

    long asked(int product) {
        return sort(product).today;
    }

    long refused(int why) {
        range(why >= -3 && why <= -1);
        return refused[-why];
    }

    long revenue() {
        long sum = 0;
        for (int[] b : bookings) {
            sum += b[4] == 0 ? b[3] : 0;
        }
        return sum;
    }

    long earned() {
        return earned;
    }
}
