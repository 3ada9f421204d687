import java.lang.reflect.Constructor;
import java.lang.reflect.Field;
import java.lang.reflect.Method;
import java.lang.reflect.Modifier;
import java.util.Arrays;
import java.util.TreeSet;

/** The public face, as the document has it. */
public final class FaceTest {
    private static final String[] FACE = {
        "void setSeats(int,int,int) throws IllegalArgumentException",
        "int addProduct(int,int,int) throws IndexOutOfBoundsException,IllegalArgumentException,IllegalStateException",
        "int setExpected(int,int) throws IndexOutOfBoundsException,IllegalArgumentException",
        "int setRate(int) throws IllegalArgumentException",
        "int ask(int) throws IndexOutOfBoundsException,IllegalStateException",
        "int group(int,int,int,int) throws IndexOutOfBoundsException,IllegalArgumentException,IllegalStateException",
        "int cancel(int) throws IndexOutOfBoundsException,IllegalStateException",
        "int endDay(int) throws IllegalArgumentException",
        "int products()",
        "int days()",
        "int booked(int) throws IndexOutOfBoundsException",
        "int authorised(int) throws IndexOutOfBoundsException",
        "int protectedSeats(int,int) throws IndexOutOfBoundsException,IllegalArgumentException",
        "int worth()",
        "int worthByTable()",
        "int bid(int) throws IndexOutOfBoundsException",
        "int displaced(int,int,int) throws IndexOutOfBoundsException,IllegalArgumentException",
        "int expected(int) throws IndexOutOfBoundsException",
        "float average(int) throws IndexOutOfBoundsException",
        "int asked(int) throws IndexOutOfBoundsException",
        "int refused(int) throws IllegalArgumentException",
        "int revenue()",
        "long earned()",
    };
    public static void main(String[] args) {
        members();
        privateNames();
        constants();
        Check.finish();
    }

    private static String told(Method m) {
        StringBuilder text = new StringBuilder();
        text.append(m.getReturnType().getSimpleName()).append(' ').append(m.getName()).append('(');
        for (Class<?> type : m.getParameterTypes()) {
            text.append(text.charAt(text.length() - 1) == '(' ? "" : ",").append(type.getSimpleName());
        }
        text.append(')');
        String joint = " throws ";
        for (Class<?> type : m.getExceptionTypes()) {
            text.append(joint).append(type.getSimpleName());
            joint = ",";
        }
        return text.toString();
    }

    private static void members() {
        TreeSet<String> open = new TreeSet<>();
        for (Method m : Nestedfare.class.getDeclaredMethods()) {
            if (!Modifier.isPrivate(m.getModifiers())) {
                open.add((Modifier.isPublic(m.getModifiers()) && !Modifier.isStatic(m.getModifiers()) ? "" : "not public: ") + told(m));
            }
        }
        Check.same("the methods", open.toString(), new TreeSet<>(Arrays.asList(FACE)).toString());
        TreeSet<String> fields = new TreeSet<>();
        for (Field f : Nestedfare.class.getDeclaredFields()) {
            if (!Modifier.isPrivate(f.getModifiers())) {
                fields.add(Modifier.toString(f.getModifiers()) + " " + f.getType() + " " + f.getName());
            }
        }
        Check.same("the fields", fields.toString(),
                "[public static final int BELOW, public static final int FULL, public static final int PROTECTED]");
        Constructor<?>[] made = Nestedfare.class.getDeclaredConstructors();
        Check.same("constructors", made.length, 1);
        Check.same("the constructor", Modifier.toString(made[0].getModifiers()) + made[0].getParameterCount(), "public0");
        Check.same("the class", Modifier.toString(Nestedfare.class.getModifiers()), "public final");
    }

    private static void privateNames() {
        TreeSet<String> open = new TreeSet<>();
        for (Method m : Nestedfare.class.getMethods()) {
            open.add(m.getName());
        }
        for (Class<?> inside : Nestedfare.class.getDeclaredClasses()) {
            for (Method m : inside.getDeclaredMethods()) {
                Check.same("that " + m + " has a public name", String.valueOf(open.contains(m.getName())), "false");
            }
        }
        for (Method m : Nestedfare.class.getDeclaredMethods()) {
            if (Modifier.isPrivate(m.getModifiers())) {
                Check.same("that " + m + " has a public name", String.valueOf(open.contains(m.getName())), "false");
            }
        }
    }

    private static void constants() {
        Check.same("FULL", Nestedfare.FULL, -1);
        Check.same("PROTECTED", Nestedfare.PROTECTED, -2);
        Check.same("BELOW", Nestedfare.BELOW, -3);
    }
}
