/** All that an object answers to questions, as one text, so that two states can be compared. */
final class Answers {
    private Answers() {
    }

    static String of(Nestedfare x) {
        StringBuilder all = new StringBuilder();
        all.append("products ").append(x.products()).append(" days ").append(x.days());
        all.append(" worth ").append(x.worth()).append(" table ").append(x.worthByTable());
        all.append(" revenue ").append(x.revenue()).append(" earned ").append(x.earned());
        all.append(" refused ").append(x.refused(Nestedfare.FULL)).append('/')
                .append(x.refused(Nestedfare.PROTECTED)).append('/').append(x.refused(Nestedfare.BELOW));
        for (int leg = 0; leg < 3; leg++) {
            all.append(" leg ").append(x.booked(leg)).append('/').append(x.authorised(leg)).append('/').append(x.bid(leg));
            all.append('/').append(x.protectedSeats(leg, 1)).append('/').append(x.protectedSeats(leg, 150));
        }
        for (int first = 0; first < 3; first++) {
            for (int last = first; last < 3; last++) {
                all.append(" displaced ").append(x.displaced(first, last, 1)).append('/').append(x.displaced(first, last, 3));
            }
        }
        for (int p = 0; p < x.products(); p++) {
            all.append(" product ").append(x.expected(p)).append('/').append(x.asked(p)).append('/').append(x.average(p));
        }
        return all.toString();
    }
}
