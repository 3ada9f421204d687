import java.lang.reflect.InvocationTargetException;
import java.lang.reflect.Method;
import java.util.ArrayList;
import java.util.Arrays;
import java.util.HashMap;
import java.util.List;
import java.util.Map;

/**
 * Each call, and right after it each other one, on objects that have something to lose; compared with the model. So a
 * call that changes something changes that alone, and a question, or a call that throws, changes nothing: whatever is
 * asked next is asked of an object of its own, so that no question can hide what another one has changed.
 */
public final class PairsTest {
    /** A call of the face by its name, for the program and the model alike. */
    private record Call(String name, int... with) {
        String answer(Object on) throws ReflectiveOperationException {
            try {
                Object[] boxed = Arrays.stream(with).boxed().toArray();
                return String.valueOf(methodOf(on.getClass(), name).invoke(on, boxed)).replace("null", "0");
            } catch (InvocationTargetException e) {
                return "throws." + e.getCause().getClass().getSimpleName();
            }
        }

        String told() {
            return name + Arrays.toString(with);
        }
    }

    private static final Map<String, Method> METHODS = new HashMap<>();

    private static Method methodOf(Class<?> of, String name) {
        return METHODS.computeIfAbsent(of.getName() + "." + name, key -> {
            for (Method m : of.getDeclaredMethods()) {
                if (m.getName().equals(name)) {
                    m.setAccessible(true);
                    return m;
                }
            }
            throw new IllegalStateException(key);
        });
    }

    public static void main(String[] args) throws ReflectiveOperationException {
        pairs("a new object", List.of());
        pairs("past days and bookings", busy());
        pairs("more booked than seats", crowded());
        pairs("eight products and sixty bookings", atItsMost());
        Check.finish();
    }

    private static void pairs(String state, List<Call> before) throws ReflectiveOperationException {
        List<Call> calls = calls();
        Model given = new Model();
        for (Call call : before) {
            call.answer(given);
        }
        for (Call call : calls) {
            Model after = given.copy();
            String due = call.answer(after);
            for (Call next : calls) {
                Nestedfare x = new Nestedfare();
                for (Call made : before) {
                    made.answer(x);
                }
                Check.same(state + ", " + call.told(), call.answer(x), due);
                Check.same(state + ", " + call.told() + ", then " + next.told(), next.answer(x), next.answer(after.copy()));
            }
        }
    }

    // ---- the states

    /** Two past days, refusals of each kind, denied ones, a show rate; booking 0 is cancelled. */
    private static List<Call> busy() {
        List<Call> made = new ArrayList<>();
        add(made, "setSeats", 2, 2, 2);
        add(made, "setRate", 50);
        add(made, "addProduct", 0, 2, 210);
        add(made, "addProduct", 0, 1, 140);
        add(made, "addProduct", 1, 2, 120);
        add(made, "addProduct", 1, 1, 30);
        for (int i = 0; i < 5; i++) {
            add(made, "ask", 0);
        }
        add(made, "endDay", 100);
        add(made, "ask", 3);
        add(made, "ask", 2);
        add(made, "endDay", 90);
        add(made, "setSeats", 8, 7, 6);
        add(made, "setRate", 80);
        add(made, "setExpected", 0, 7);
        add(made, "setExpected", 1, 5);
        add(made, "setExpected", 2, 4);
        add(made, "setExpected", 3, 9);
        add(made, "ask", 0);
        add(made, "cancel", 0);
        add(made, "group", 0, 1, 2, 3000);
        add(made, "group", 2, 2, 1, 1);
        for (int i = 0; i < 2; i++) {
            add(made, "ask", 3);
            add(made, "ask", 2);
        }
        add(made, "group", 0, 2, 9, 10);
        add(made, "group", 1, 1, 1, 3000);
        return made;
    }

    /** More booked than there are seats; booking 0 is not cancelled. */
    private static List<Call> crowded() {
        List<Call> made = new ArrayList<>();
        add(made, "setSeats", 10, 10, 10);
        add(made, "addProduct", 0, 0, 90);
        add(made, "addProduct", 2, 2, 60);
        add(made, "addProduct", 0, 2, 150);
        add(made, "ask", 1);
        add(made, "ask", 0);
        add(made, "ask", 0);
        add(made, "endDay", 100);
        add(made, "setExpected", 0, 4);
        add(made, "setExpected", 2, 2);
        add(made, "group", 0, 0, 6, 3000);
        add(made, "group", 2, 2, 4, 200);
        add(made, "group", 0, 2, 1, 700);
        add(made, "cancel", 2);
        add(made, "setSeats", 5, 3, 4);
        add(made, "setRate", 70);
        return made;
    }

    private static List<Call> atItsMost() {
        List<Call> made = new ArrayList<>();
        add(made, "setSeats", 10, 9, 8);
        for (int p = 0; p < 8; p++) {
            add(made, "addProduct", p % 3, p % 3, 8 - p);
        }
        for (int booking = 0; booking < 60; booking++) {
            add(made, "group", booking % 3, booking % 3, 1, 1);
            if (booking % 7 != 0) {
                add(made, "cancel", booking);
            }
        }
        return made;
    }

    // ---- the calls

    private static void add(List<Call> calls, String name, int... with) {
        calls.add(new Call(name, with));
    }

    private static List<Call> calls() {
        List<Call> calls = new ArrayList<>();
        changes(calls);
        groups(calls);
        for (String name : new String[] {"products", "days", "worth", "worthByTable", "revenue", "earned"}) {
            add(calls, name);
        }
        for (int leg = 0; leg < 4; leg++) {
            add(calls, "booked", leg);
            add(calls, "authorised", leg);
            add(calls, "bid", leg);
            add(calls, "protectedSeats", leg, 1);
            add(calls, "protectedSeats", leg, 70);
            for (int last = leg; last < 3; last++) {
                add(calls, "displaced", leg, last, 2);
            }
        }
        add(calls, "displaced", 0, 2, 7);
        add(calls, "displaced", 1, 0, 1);
        for (int p = 0; p < 5; p++) {
            add(calls, "expected", p);
            add(calls, "average", p);
            add(calls, "asked", p);
        }
        for (int why = -4; why < 1; why++) {
            add(calls, "refused", why);
        }
        return calls;
    }

    private static void changes(List<Call> calls) {
        add(calls, "setSeats", 3, 8, 9);
        add(calls, "setSeats", 0, 11, 0);
        add(calls, "addProduct", 0, 1, 77);
        add(calls, "addProduct", 1, 1, 30);
        add(calls, "addProduct", 2, 1, 30);
        add(calls, "addProduct", 3, 1, 30);
        add(calls, "setRate", 66);
        add(calls, "setRate", 49);
        for (int p = 0; p < 5; p++) {
            add(calls, "setExpected", p, 3);
            add(calls, "ask", p);
        }
        add(calls, "setExpected", 0, 21);
        for (int booking = 0; booking < 6; booking++) {
            add(calls, "cancel", booking);
        }
        add(calls, "cancel", 60);
        add(calls, "endDay", 0);
        add(calls, "endDay", 75);
        add(calls, "endDay", 101);
    }

    private static void groups(List<Call> calls) {
        add(calls, "group", 0, 0, 1, 2000);
        add(calls, "group", 0, 2, 2, 3);
        add(calls, "group", 1, 2, 10, 3000);
        add(calls, "group", 2, 2, 1, 0);
        add(calls, "group", 0, 3, 1, 1);
    }
}
