import java.lang.reflect.Method;
import java.lang.reflect.Modifier;
import java.nio.file.Files;
import java.nio.file.Path;
import java.util.List;
import java.util.TreeSet;
import java.util.regex.Matcher;
import java.util.regex.Pattern;

/** Calls what README.md calls, and wants the answers that it tells. Run from the root of the project. */
public final class ReadmeTests {
    private static final Pattern CALL = Pattern.compile("lift\\.(\\w+)\\(([^)]*)\\);\\s+// ([^:]+)(:.*)?");
    private static int wrong = 0;

    private static void fault(String what) {
        wrong++;
        System.out.println(what);
    }

    private static Object answer(BoatLift lift, String name, String arguments) throws Exception {
        String[] told = arguments.isEmpty() ? new String[0] : arguments.split(", ");
        Class<?>[] types = new Class<?>[told.length];
        Object[] values = new Object[told.length];
        for (int i = 0; i < told.length; i++) {
            types[i] = int.class;
            values[i] = Integer.decode(told[i]);
        }
        return BoatLift.class.getMethod(name, types).invoke(lift, values);
    }

    private static int calls(List<String> page) throws Exception {
        BoatLift lift = new BoatLift();
        int calls = 0;
        for (String line : page) {
            Matcher m = CALL.matcher(line);
            if (m.matches()) {
                calls++;
                String got = answer(lift, m.group(1), m.group(2)).toString();
                if (!got.equals(m.group(3))) {
                    fault(line + " answered " + got);
                }
            } else if (line.startsWith("lift.")) {
                fault("not read: " + line);
            }
        }
        return calls;
    }

    private static void namesEachMethod(String page) {
        TreeSet<String> names = new TreeSet<>();
        for (Method m : BoatLift.class.getDeclaredMethods()) {
            if (Modifier.isPublic(m.getModifiers())) {
                names.add(m.getName());
            }
        }
        for (String name : names) {
            if (!page.contains("`" + name + "`")) {
                fault("README.md does not name " + name);
            }
        }
    }

    public static void main(String[] args) throws Exception {
        List<String> page = Files.readAllLines(Path.of("README.md"));
        int calls = calls(page);
        if (calls < 10) {
            fault("README.md shows " + calls + " calls only");
        }
        namesEachMethod(String.join("\n", page));
        System.out.println(calls + " calls of README.md, " + wrong + " faults");
        System.exit(wrong == 0 ? 0 : 1);
    }
}
