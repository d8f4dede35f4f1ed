import java.lang.reflect.Method;
import java.nio.file.Files;
import java.nio.file.Path;
import java.util.Set;
import java.util.TreeSet;
import java.util.regex.Matcher;
import java.util.regex.Pattern;

/** Makes the calls that README.md shows, one behind the other on one object, and looks at the answers it tells. */
public final class ReadmeTest {
    private static final Pattern CALL = Pattern.compile("x\\.(\\w+)\\(([^)]*)\\);\\s+// (-?\\d+|true|false|NONE)\\b.*");
    private static int wrong = 0;
    private static int made = 0;

    public static void main(String[] args) throws Exception {
        String page = Files.readString(Path.of("README.md"));
        RopeToALake x = new RopeToALake();
        Matcher blocks = Pattern.compile("(?s)```java\n(.*?)```").matcher(page);
        while (blocks.find()) {
            for (String line : blocks.group(1).split("\n")) {
                if (!line.equals("RopeToALake x = new RopeToALake();")) {
                    make(x, line);
                }
            }
        }
        namesEveryCall(page);
        if (made == 0) {
            fault("no calls on the page");
        }
        System.out.println(wrong == 0 ? made + " calls of README.md answer as it says" : wrong + " faults in README.md");
        if (wrong != 0) {
            System.exit(1);
        }
    }

    private static void fault(String what) {
        wrong++;
        System.out.println(what);
    }

    private static void make(RopeToALake x, String line) throws Exception {
        Matcher call = CALL.matcher(line);
        if (!call.matches()) {
            fault("no call with its answer: " + line);
            return;
        }
        String got = String.valueOf(answer(x, call.group(1), call.group(2)));
        String due = call.group(3).equals("NONE") ? "-1" : call.group(3);
        made++;
        if (!got.equals(due)) {
            fault(line + " -- answered " + got);
        }
    }

    private static Object answer(RopeToALake x, String name, String given) throws Exception {
        String[] words = given.isEmpty() ? new String[0] : given.split(", *");
        for (Method m : RopeToALake.class.getDeclaredMethods()) {
            if (m.getName().equals(name) && m.getParameterCount() == words.length) {
                Object[] values = new Object[words.length];
                for (int i = 0; i < words.length; i++) {
                    values[i] = m.getParameterTypes()[i] == boolean.class
                            ? (Object) Boolean.valueOf(words[i]) : (Object) Integer.decode(words[i]);
                }
                return m.invoke(x, values);
            }
        }
        return "nothing: there is no such call";
    }

    private static void namesEveryCall(String page) {
        Set<String> names = new TreeSet<>();
        Matcher quoted = Pattern.compile("`(\\w+)`").matcher(page);
        while (quoted.find()) {
            names.add(quoted.group(1));
        }
        for (Method m : RopeToALake.class.getMethods()) {
            if (m.getDeclaringClass() == RopeToALake.class && !names.contains(m.getName())) {
                fault("README.md does not name " + m.getName());
            }
        }
    }
}
