import java.lang.reflect.Field;
import java.lang.reflect.Method;
import java.lang.reflect.Modifier;
import java.nio.file.Files;
import java.nio.file.Path;
import java.util.ArrayList;
import java.util.List;
import java.util.Set;
import java.util.TreeSet;
import java.util.regex.Matcher;
import java.util.regex.Pattern;

/** Looks at what of ../shared/LANGUAGE.md can be seen from the source's text and from the classes. */
public final class LanguageTest {
    private static final Path SOURCE = Path.of("src/main/java/RopeToALake.java");
    private static final Set<String> FACE = Set.of(
            "int state(int)", "boolean notches(int)", "int bucket(int,int,int)", "int farm(int,int,int,int)",
            "boolean tell(int,int,int)", "boolean turn(int,int)", "boolean absent(int,int,int)",
            "int splice(int,int,int)", "boolean mend(int,int)", "boolean foes(int,int,boolean)",
            "int feed(int,int,int,int,int)", "boolean end(int)", "int text()", "int fault(int)", "int hours(int)",
            "int of(int,int)", "int pail(int,int)", "int part(int,int)", "int owes(int,int)", "int deals()",
            "int best(int)", "int peace(int)", "boolean log(int,int)", "int slow(int,int)", "int breaks(int)",
            "int lasting(int,int)", "boolean undo()", "boolean image(boolean)", "int look(int)");
    private static final Set<String> LIBRARY = Set.of("Math.min", "Math.max", "Integer.MAX_VALUE",
            "System.arraycopy", "Arrays.fill");
    private static int wrong = 0;

    public static void main(String[] args) throws Exception {
        String source = Files.readString(SOURCE);
        String code = source.replaceAll("(?s)/\\*.*?\\*/", "").replaceAll("//[^\n]*", "")
                .replaceAll("\"[^\"\n]*\"", "\"\"");
        face();
        inside();
        words(code);
        library(code);
        methodLengths(source);
        System.out.println(wrong == 0 ? "the language is kept to" : wrong + " faults of language");
        if (wrong != 0) {
            System.exit(1);
        }
    }

    private static void fault(String what) {
        wrong++;
        System.out.println(what);
    }

    private static void face() {
        Set<String> seen = new TreeSet<>();
        for (Method m : RopeToALake.class.getDeclaredMethods()) {
            if (!Modifier.isPrivate(m.getModifiers())) {
                List<String> types = new ArrayList<>();
                for (Class<?> t : m.getParameterTypes()) {
                    types.add(t.getName());
                }
                seen.add(m.getReturnType().getName() + " " + m.getName() + "(" + String.join(",", types) + ")");
            }
        }
        if (!seen.equals(new TreeSet<>(FACE))) {
            fault("rule 1: the face is " + seen);
        }
        for (Field f : RopeToALake.class.getDeclaredFields()) {
            if (!Modifier.isPrivate(f.getModifiers()) && !f.getName().equals("NONE")) {
                fault("rule 1: field " + f);
            }
        }
        if (!Modifier.isFinal(RopeToALake.class.getModifiers())
                || RopeToALake.class.getDeclaredConstructors().length != 1) {
            fault("rule 1: final, with one constructor");
        }
    }

    private static void inside() {
        Set<String> names = new TreeSet<>();
        for (String m : FACE) {
            names.add(m.replaceAll(".* |\\(.*", ""));
        }
        List<Class<?>> classes = new ArrayList<>(List.of(RopeToALake.class.getDeclaredClasses()));
        for (Class<?> c : classes) {
            if (!Modifier.isStatic(c.getModifiers())) {
                fault("rule 2: not static: " + c);
            }
        }
        classes.add(RopeToALake.class);
        if (classes.size() > 12) {
            fault("rule 11: " + classes.size() + " classes");
        }
        for (Class<?> c : classes) {
            int fields = 0;
            for (Field f : c.getDeclaredFields()) {
                fields += Modifier.isStatic(f.getModifiers()) ? 0 : 1;
                if (Modifier.isStatic(f.getModifiers()) && !Modifier.isFinal(f.getModifiers())) {
                    fault("rule 5: " + f);
                }
            }
            if (fields > 20) {
                fault("rule 11: " + fields + " fields in " + c);
            }
            for (Method m : c.getDeclaredMethods()) {
                if (m.getParameterCount() > 7) {
                    fault("rule 11: " + m);
                }
                if (names.contains(m.getName()) && !(c == RopeToALake.class && Modifier.isPublic(m.getModifiers()))) {
                    fault("rule 1: a name of the face: " + m);
                }
            }
        }
    }

    private static void words(String code) {
        Matcher m = Pattern.compile("\\b(throw|throws|try|catch|finally|synchronized|assert|package|protected|native|"
                + "volatile|transient|double|float|Object|Exception|Random|Thread|equals|hashCode|toString)\\b|->|::")
                .matcher(code);
        while (m.find()) {
            fault("rules 1 to 6: " + m.group());
        }
        Matcher imports = Pattern.compile("import ([^;]*);").matcher(code);
        while (imports.find()) {
            if (!imports.group(1).equals("java.util.Arrays")) {
                fault("rule 4: import " + imports.group(1));
            }
        }
    }

    private static void library(String code) {
        Matcher m = Pattern.compile("\\b(Math|Integer|Long|System|Arrays|String|Character)\\.(\\w+)")
                .matcher(code.replaceAll("import [^;]*;", ""));
        while (m.find()) {
            if (!LIBRARY.contains(m.group())) {
                fault("rule 4: " + m.group());
            }
        }
    }

    /** A method begins at a line that opens a block behind a ) and ends at the } under its first letter. */
    private static void methodLengths(String source) {
        String[] lines = source.split("\n");
        for (int i = 0; i < lines.length; i++) {
            Matcher m = Pattern.compile("^( {4}| {8})[a-z][\\w\\[\\]. ]*\\b\\w+\\([^)]*\\) \\{$", Pattern.CASE_INSENSITIVE)
                    .matcher(lines[i]);
            if (m.find() && !lines[i].trim().matches("(if|for|while|switch|else|return|\\}).*")) {
                int last = i;
                while (last < lines.length && !lines[last].equals(m.group(1) + "}")) {
                    last++;
                }
                if (last - i + 1 > 60) {
                    fault("rule 11: " + (last - i + 1) + " lines: " + lines[i].trim());
                }
            }
        }
    }
}
