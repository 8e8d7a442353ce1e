import java.lang.reflect.Method;
import java.lang.reflect.Modifier;

/** Each call with numbers far off: it is refused as BAD, counted once, changes nothing else, and throws nothing. */
public final class WrongInputs {
    private static final int[] OFF = {Integer.MIN_VALUE, Integer.MIN_VALUE + 1, -1000, -2, 1000, 4097, 65536, Integer.MAX_VALUE - 1,
        Integer.MAX_VALUE};

    private static int wrong = 0;

    private static OneRoom lived() {
        OneRoom x = new OneRoom();
        x.bed(7);
        x.bed(35);
        x.sleeper(10, 2, 0, 40, 30);
        x.sleeper(6, 1, 4, 30, 0);
        x.lie(0, 0);
        x.lie(1, 1);
        x.sound(1, 1, 6, 20, 40);
        x.rule(0, 1, true);
        x.image(1);
        return x;
    }

    private static long refused(String name) {
        switch (name) {
            case "lie":
            case "wakes":
            case "best": return -10;
            case "worth": return -100;
            case "status": return -1;
            default: return -2;
        }
    }

    private static void ask(Method m, int first) throws ReflectiveOperationException {
        OneRoom x = lived();
        long was = x.digest();
        Class<?>[] types = m.getParameterTypes();
        Object[] args = new Object[types.length];
        for (int i = 0; i < args.length; i++) {
            int v = OFF[(first + 4 * i) % OFF.length];
            args[i] = types[i] == int.class ? (Object) v : types[i] == long.class ? (Object) (long) v : (Object) (v > 0);
        }
        long got = ((Number) m.invoke(x, args)).longValue();
        if (got != refused(m.getName()) || x.status(0) != 1 || x.digest() != was) {
            wrong++;
            System.out.println(m.getName() + java.util.Arrays.toString(args) + " answered " + got + ", status(0) " + x.status(0));
        }
    }

    public static void main(String[] args) throws ReflectiveOperationException {
        int calls = 0;
        for (Method m : OneRoom.class.getDeclaredMethods()) {
            if (Modifier.isPublic(m.getModifiers()) && m.getParameterCount() > 0) {
                calls++;
                for (int i = 0; i < OFF.length; i++) {
                    ask(m, i);
                }
            }
        }
        System.out.println(wrong == 0 && calls > 20 ? calls + " calls refuse what is far off" : wrong + " answers are not as due");
        if (wrong != 0 || calls <= 20) {
            System.exit(1);
        }
    }
}
