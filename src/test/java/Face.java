import java.lang.reflect.Constructor;
import java.lang.reflect.Field;
import java.lang.reflect.Method;
import java.lang.reflect.Modifier;
import java.util.Set;
import java.util.TreeSet;

/** The face of the class is the document's and no more. */
public final class Face {
    private static final Set<String> METHODS = Set.of("int wall(int,boolean)", "int board(int,int)", "int put(int,int)",
            "int bed(int)", "int sleeper(int,int,int,int,int)", "int lie(int,int)", "int sound(int,int,int,int,int)",
            "int still()", "int type(long,int)", "int clear()", "int house()", "int distance(int,int)",
            "int heard(int,int,int,int)", "int slept(int)", "int is(int,int)", "int wakes(int,int)", "int woke(int,int)",
            "int night(int)", "int way(int,int,int)", "int rule(int,int,boolean)", "int free()", "int best(boolean,int)",
            "int cost()", "int order(int)", "int worth(int,int)", "int screw()", "int rooms()", "int temper(int,int)",
            "int quarrel(int)", "int tent(int,int)", "int part(int)", "int image(int)", "int from(int)", "int status(int)",
            "int count(int)", "long digest()");
    private static int wrong = 0;

    private static void due(String what, boolean holds) {
        if (!holds) {
            wrong++;
            System.out.println("not so: " + what);
        }
    }

    private static String told(Method m) {
        StringBuilder s = new StringBuilder(m.getReturnType() + " " + m.getName() + "(");
        for (Class<?> c : m.getParameterTypes()) {
            s.append(s.charAt(s.length() - 1) == '(' ? "" : ",").append(c);
        }
        return s.append(")").toString();
    }

    private static void members() {
        Set<String> open = new TreeSet<>();
        Set<String> names = new TreeSet<>();
        for (Method m : OneRoom.class.getDeclaredMethods()) {
            if (Modifier.isPublic(m.getModifiers())) {
                open.add(told(m));
                names.add(m.getName());
                due(m + " is of the object", !Modifier.isStatic(m.getModifiers()));
            }
        }
        due("the methods are the document's: " + open, open.equals(METHODS));
        for (Method m : OneRoom.class.getDeclaredMethods()) {
            if (!Modifier.isPublic(m.getModifiers())) {
                due(m + " is private, with a name of its own",
                        Modifier.isPrivate(m.getModifiers()) && !names.contains(m.getName()));
            }
        }
        Set<String> constants = new TreeSet<>();
        for (Field f : OneRoom.class.getDeclaredFields()) {
            if (Modifier.isPublic(f.getModifiers())) {
                constants.add(f.getType() + " " + f.getName());
                due(f + " is of the class", Modifier.isStatic(f.getModifiers()));
            }
            due(f + " is public or private", Modifier.isPublic(f.getModifiers()) || Modifier.isPrivate(f.getModifiers()));
            due(f + " is final if static", !Modifier.isStatic(f.getModifiers()) || Modifier.isFinal(f.getModifiers()));
        }
        due("the constants are the document's: " + constants, constants.equals(Set.of("int NONE", "int BAD", "int NO", "int FULL")));
        Constructor<?>[] made = OneRoom.class.getDeclaredConstructors();
        due("one constructor, public", made.length == 1 && Modifier.isPublic(made[0].getModifiers())
                && made[0].getParameterCount() == 0);
        due("final", Modifier.isFinal(OneRoom.class.getModifiers()));
    }

    private static void classes() {
        for (Class<?> c : OneRoom.class.getDeclaredClasses()) {
            due(c + " is not public", !Modifier.isPublic(c.getModifiers()) && !Modifier.isProtected(c.getModifiers()));
        }
        due("nothing above it", OneRoom.class.getSuperclass() == Object.class && OneRoom.class.getInterfaces().length == 0);
        due("no package", OneRoom.class.getPackageName().isEmpty());
    }

    public static void main(String[] args) {
        members();
        classes();
        System.out.println(wrong == 0 ? "the face is as due" : wrong + " things of the face are not as due");
        if (wrong != 0) {
            System.exit(1);
        }
    }
}
