/** Objects to begin a test with. */
final class Given {
    private Given() {
    }

    static Nestedfare with(int first, int second, int third) {
        Nestedfare x = new Nestedfare();
        x.setSeats(first, second, third);
        return x;
    }

    static void askOften(Nestedfare x, int product, int times) {
        for (int i = 0; i < times; i++) {
            x.ask(product);
        }
    }
}
