import java.io.IOException;
import java.lang.reflect.Method;
import java.nio.file.Files;
import java.nio.file.Path;
import java.util.ArrayList;
import java.util.List;
import java.util.regex.Matcher;
import java.util.regex.Pattern;

/** The calls that README.md shows are answered as it says; it names each call and up to how many are promised. */
public final class ReadmeCalls {
    private static final Pattern LINE = Pattern.compile("room\\.(\\w+)\\((.*?)\\);\\s*// (-?\\d+).*");

    private static Object argument(Class<?> type, String told) {
        if (type == boolean.class) {
            return Boolean.valueOf(told);
        }
        long v = Long.decode(told.replace("L", ""));
        return type == long.class ? (Object) v : (Object) (int) v;
    }

    private static long call(OneRoom room, String name, String told) throws ReflectiveOperationException {
        List<String> args = new ArrayList<>();
        for (String arg : told.split(",")) {
            if (!arg.isBlank()) {
                args.add(arg.trim());
            }
        }
        for (Method m : OneRoom.class.getDeclaredMethods()) {
            if (m.getName().equals(name) && m.getParameterCount() == args.size()) {
                Object[] row = new Object[args.size()];
                for (int i = 0; i < row.length; i++) {
                    row[i] = argument(m.getParameterTypes()[i], args.get(i));
                }
                return ((Number) m.invoke(room, row)).longValue();
            }
        }
        throw new NoSuchMethodException(name + "(" + told + ")");
    }

    public static void main(String[] args) throws IOException, ReflectiveOperationException {
        String readme = Files.readString(Path.of("README.md"));
        OneRoom room = new OneRoom();
        int shown = 0;
        for (String line : readme.split("\n")) {
            Matcher m = LINE.matcher(line);
            if (m.matches()) {
                shown++;
                Check.due(line, call(room, m.group(1), m.group(2)), Long.parseLong(m.group(3)));
            }
        }
        Check.due("calls are shown", shown > 9 ? 1 : 0, 1);
        for (Method m : OneRoom.class.getDeclaredMethods()) {
            if (java.lang.reflect.Modifier.isPublic(m.getModifiers())) {
                Check.due("names " + m.getName(), readme.contains("`" + m.getName() + "`") ? 1 : 0, 1);
            }
        }
        Check.due("tells of the 512 calls", readme.contains("512 calls") ? 1 : 0, 1);
        Check.end("what README.md shows");
    }
}
