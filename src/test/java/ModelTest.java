/** Long runs of calls, drawn by a fixed rule, answered by the program and by the model alike. */
public final class ModelTest {
    private static final int RUNS = 400;
    private static final int CALLS = 512;

    private long seed;
    private final Nestedfare x = new Nestedfare();
    private final Model model = new Model();
    private final int mood;
    private final int[] met = new int[6];

    private ModelTest(int run) {
        seed = run * 7919L + 17;
        mood = run % 4;
    }

    public static void main(String[] args) {
        int[] met = new int[6];
        for (int run = 0; run < RUNS; run++) {
            ModelTest test = new ModelTest(run);
            for (int call = 0; call < CALLS; call++) {
                test.step("run " + run + " call " + call);
            }
            for (int i = 0; i < met.length; i++) {
                met[i] += test.met[i];
            }
        }
        String[] kinds = {"a booking", "FULL", "PROTECTED", "BELOW", "IllegalStateException", "a denied one"};
        for (int i = 0; i < met.length; i++) {
            System.out.println(kinds[i] + " came " + met[i] + " times");
            Check.same("that " + kinds[i] + " came up often enough", Math.min(met[i], 100), 100);
        }
        Check.finish();
    }

    /** From least to most, by a linear congruence. */
    private int draw(int least, int most) {
        seed = seed * 6364136223846793005L + 1442695040888963407L;
        return least + (int) ((seed >>> 33) % (most - least + 1));
    }

    /** Mostly in the range, at times just outside or anywhere. */
    private int near(int least, int most) {
        switch (draw(0, 49)) {
            case 0:
                return least - 1;
            case 1:
                return most + 1;
            case 2:
                return least;
            case 3:
                return most;
            case 4:
                return anywhere();
            default:
                return draw(least, most);
        }
    }

    /** All numbers that there are: greatest and least ones, those round powers of two, and any. */
    private int anywhere() {
        int any = (int) (seed >>> 17);
        switch (draw(0, 3)) {
            case 0:
                return Integer.MIN_VALUE + draw(0, 1);
            case 1:
                return Integer.MAX_VALUE - draw(0, 1);
            case 2:
                return (1 << draw(0, 31)) - draw(0, 1);
            default:
                return any;
        }
    }

    /** A last leg for a first one. */
    private int nearLast(int first) {
        return near(Math.max(0, Math.min(first, 2)), 2);
    }

    private int fare() {
        return draw(0, 2) == 0 ? near(1, 1000) : draw(1, 12) * 25;
    }

    private void both(String what, Check.Call mine, Check.Call due) {
        String got = Check.outcome(mine);
        Check.same(what, got, Check.outcome(due));
        if (got.endsWith("IllegalStateException")) {
            met[4]++;
        }
    }

    private void step(String at) {
        int kind = draw(0, 99);
        if (kind < 6) {
            change(at, kind);
        } else if (kind < (mood == 1 ? 60 : 38)) {
            int p = near(0, 7);
            both(at + " ask " + p, () -> note(x.ask(p)), () -> model.ask(p));
        } else if (kind < 66) {
            groupOrCancel(at);
        } else if (kind < (mood == 2 ? 67 : 70)) {
            int shows = near(0, 100);
            both(at + " endDay " + shows, () -> noteDenied(x.endDay(shows)), () -> model.endDay(shows));
        } else if (kind < 74) {
            int p = near(0, 7);
            int many = near(0, draw(0, 1) == 0 ? 20 : 4);
            both(at + " setExpected " + p + " " + many, () -> x.setExpected(p, many), () -> model.setExpected(p, many));
        } else {
            question(at, kind);
        }
        if (draw(0, 15) == 0) {
            all(at);
        }
    }

    private long note(int come) {
        met[come >= 0 ? 0 : -come]++;
        return come;
    }

    private long noteDenied(int denied) {
        met[5] += denied > 0 ? 1 : 0;
        return denied;
    }

    private void change(String at, int kind) {
        if (kind < 2) {
            int a = near(0, 10);
            int b = near(0, 10);
            int c = near(0, 10);
            both(at + " setSeats " + a + " " + b + " " + c, () -> { x.setSeats(a, b, c); return 0; }, () -> model.setSeats(a, b, c));
        } else if (kind < 5) {
            int first = near(0, 2);
            int last = nearLast(first);
            int fare = fare();
            both(at + " addProduct " + first + " " + last + " " + fare,
                    () -> x.addProduct(first, last, fare), () -> model.addProduct(first, last, fare));
        } else {
            int rate = near(50, 100);
            both(at + " setRate " + rate, () -> x.setRate(rate), () -> model.setRate(rate));
        }
    }

    private void groupOrCancel(String at) {
        if (draw(0, mood == 3 ? 4 : 1) == 0) {
            int first = near(0, 2);
            int last = nearLast(first);
            int many = draw(0, 1) == 0 ? near(1, 10) : draw(1, 2);
            int fare = draw(0, 1) == 0 ? fare() : near(1, 3000);
            both(at + " group " + first + " " + last + " " + many + " " + fare,
                    () -> note(x.group(first, last, many, fare)), () -> model.group(first, last, many, fare));
        } else {
            int booking = draw(0, 2) == 0 ? near(0, 59) : draw(0, 12);
            both(at + " cancel " + booking, () -> x.cancel(booking), () -> model.cancel(booking));
        }
    }

    private void question(String at, int kind) {
        int leg = near(0, 2);
        int fare = fare();
        int p = near(0, 7);
        if (kind < 78) {
            both(at + " worth", () -> x.worth(), () -> model.worth());
            both(at + " worthByTable", () -> x.worthByTable(), () -> model.worthByTable());
        } else if (kind < 82) {
            both(at + " bid " + leg, () -> x.bid(leg), () -> model.bid(leg));
        } else if (kind < 86) {
            int last = nearLast(leg);
            int many = near(1, 10);
            both(at + " displaced " + leg + " " + last + " " + many,
                    () -> x.displaced(leg, last, many), () -> model.displaced(leg, last, many));
        } else if (kind < 90) {
            both(at + " protectedSeats " + leg + " " + fare, () -> x.protectedSeats(leg, fare), () -> model.protectedSeats(leg, fare));
        } else if (kind < 92) {
            both(at + " booked " + leg, () -> x.booked(leg), () -> model.booked(leg));
            both(at + " authorised " + leg, () -> x.authorised(leg), () -> model.authorised(leg));
        } else if (kind < 96) {
            both(at + " expected " + p, () -> x.expected(p), () -> model.expected(p));
            both(at + " asked " + p, () -> x.asked(p), () -> model.asked(p));
            both(at + " average " + p, () -> Float.floatToIntBits(x.average(p)), () -> Float.floatToIntBits(model.average(p)));
        } else {
            int why = near(-3, -1);
            both(at + " refused " + why, () -> x.refused(why), () -> model.refused(why));
            both(at + " revenue", () -> x.revenue(), () -> model.revenue());
            both(at + " earned", () -> x.earned(), () -> model.earned());
        }
    }

    private void all(String at) {
        both(at + " products", () -> x.products(), () -> model.products());
        both(at + " days", () -> x.days(), () -> model.days());
        for (int i = 0; i < 3; i++) {
            int leg = i;
            both(at + " booked " + leg, () -> x.booked(leg), () -> model.booked(leg));
        }
        for (int i = 0; i < 8; i++) {
            int p = i;
            both(at + " asked " + p, () -> x.asked(p), () -> model.asked(p));
        }
        both(at + " worth", () -> x.worth(), () -> model.worth());
    }
}
