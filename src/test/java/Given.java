/** Objects to begin a test with. */
final class Given {
    private Given() {
    }

    static Nestedfare with(int first, int second, int third) {
        Nestedfare x = new Nestedfare();
        x.setSeats(first, second, third);
        return x;
    }

    static void askOften(Nestedfare x, int product, int times) {
        for (int i = 0; i < times; i++) {
            x.ask(product);
        }
    }

    /** Eight products of one leg each, with the fares 1 to 8. */
    static Nestedfare withEightProducts() {
        Nestedfare x = with(10, 10, 10);
        for (int p = 0; p < 8; p++) {
            x.addProduct(p % 3, p % 3, 1 + p);
        }
        return x;
    }

    /** A product 0 over all legs, and so many bookings of it, of which only the last is not cancelled. */
    static Nestedfare withBookings(int many) {
        Nestedfare x = with(10, 10, 10);
        x.addProduct(0, 2, 10);
        for (int i = 0; i < many; i++) {
            x.ask(0);
            if (i + 1 < many) {
                x.cancel(i);
            }
        }
        return x;
    }

    /** The numbers next to a range and far outside of it. */
    static int[] outside(int least, int most) {
        return new int[] {Integer.MIN_VALUE, least - 1, most + 1, Integer.MAX_VALUE};
    }
}
