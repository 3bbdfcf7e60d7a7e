import java.lang.reflect.Constructor;
import java.lang.reflect.Field;
import java.lang.reflect.Method;
import java.lang.reflect.Modifier;
import java.nio.file.Files;
import java.nio.file.Path;
import java.util.Arrays;
import java.util.List;
import java.util.TreeSet;
import java.util.regex.Matcher;
import java.util.regex.Pattern;

/** The public face, and the rules of LANGUAGE.md that the class or its text shows. Run from the root of the project. */
public final class RuleTests {
    private static final Path SOURCE = Path.of("src/main/java/BoatLift.java");
    private static final List<String> FACE = List.of(
        "int feed(int, int, int, int, int)", "int law(int)", "boolean trough(int)", "boolean area(int, int)",
        "boolean flow(int, int)", "boolean ice(int, int)", "int boat(int, int, int, int, int, int)", "int queue(int, int, int)",
        "int fitting(int)", "int ride(int, int)", "int renew(int)", "int plan()", "int ends()", "long stock(int)",
        "int level(int)", "int depth(int)", "int look(int, int)", "int count(int)");
    private static int wrong = 0;

    private static void hold(String rule, boolean holds) {
        if (!holds) {
            wrong++;
            System.out.println("broken: " + rule);
        }
    }

    private static String told(Method m) {
        StringBuilder all = new StringBuilder(m.getReturnType() + " " + m.getName() + "(");
        for (Class<?> c : m.getParameterTypes()) {
            all.append(all.charAt(all.length() - 1) == '(' ? "" : ", ").append(c);
        }
        return all + ")";
    }

    private static void face() {
        Class<?> c = BoatLift.class;
        hold("1: public and final", Modifier.isPublic(c.getModifiers()) && Modifier.isFinal(c.getModifiers()));
        TreeSet<String> open = new TreeSet<>();
        TreeSet<String> openNames = new TreeSet<>();
        for (Method m : c.getDeclaredMethods()) {
            if (!m.isSynthetic() && !Modifier.isPrivate(m.getModifiers())) {
                hold("1: " + m + " is public, not static", Modifier.isPublic(m.getModifiers()) && !Modifier.isStatic(m.getModifiers()));
                open.add(told(m));
                openNames.add(m.getName());
            }
        }
        hold("1: the methods of the face: " + open, open.equals(new TreeSet<>(FACE)));
        for (Constructor<?> k : c.getDeclaredConstructors()) {
            hold("1: one public constructor without arguments", Modifier.isPublic(k.getModifiers()) && k.getParameterCount() == 0);
        }
        for (Field f : c.getDeclaredFields()) {
            hold("1: " + f + " is private, or NONE", f.getName().equals("NONE") ? Modifier.isPublic(f.getModifiers()) : Modifier.isPrivate(f.getModifiers()));
        }
        hold("11: some twelve classes", c.getDeclaredClasses().length + 1 <= 12);
        shape(c, openNames, false);
        for (Class<?> inner : c.getDeclaredClasses()) {
            hold("2: " + inner + " is static", Modifier.isStatic(inner.getModifiers()));
            hold("2: " + inner + " has no class inside", inner.getDeclaredClasses().length == 0);
            shape(inner, openNames, true);
        }
    }

    private static void shape(Class<?> c, TreeSet<String> openNames, boolean inner) {
        long fields = Arrays.stream(c.getDeclaredFields()).filter(f -> !Modifier.isStatic(f.getModifiers())).count();
        hold("11: fields of " + c, fields <= 20);
        for (Field f : c.getDeclaredFields()) {
            hold("5: " + f + " is final if static", !Modifier.isStatic(f.getModifiers()) || Modifier.isFinal(f.getModifiers()));
        }
        for (Method m : c.getDeclaredMethods()) {
            hold("11: parameters of " + m, m.getParameterCount() <= 7);
            boolean ownName = !openNames.contains(m.getName()) || !inner && Modifier.isPublic(m.getModifiers());
            hold("1: no private method bears a public one's name: " + m, ownName);
        }
        for (Constructor<?> k : c.getDeclaredConstructors()) {
            hold("11: parameters of " + k, k.getParameterCount() <= 7);
        }
    }

    private static void text() throws Exception {
        String source = Files.readString(SOURCE);
        String code = source.replaceAll("(?s)/\\*.*?\\*/", "").replaceAll("//[^\n]*", "");
        for (String word : List.of("throw", "throws", "try", "catch", "synchronized", "assert", "native", "transient", "volatile", "System\\.out", "Random", "Thread", "Object", "Exception", "hashCode", "toString", "package", "lambda")) {
            hold("6: no " + word, !Pattern.compile("\\b" + word + "\\b").matcher(code).find());
        }
        hold("2: no lambda, no method reference", !code.contains("->") && !code.contains("::"));
        Matcher imports = Pattern.compile("import ([\\w.]+);").matcher(code);
        while (imports.find()) {
            hold("4: import of " + imports.group(1), List.of("java.util.ArrayList", "java.util.List", "java.util.Arrays").contains(imports.group(1)));
        }
        hold("3: signs 1 to 127 alone", source.chars().allMatch(c -> c > 0 && c < 128));
        hold("9: no loop without a bound", !code.contains("while (true)") && !code.contains("for (;;)"));
        methodLengths(code.split("\n"));
    }

    private static void methodLengths(String[] lines) {
        int from = -1;
        String indent = "";
        for (int i = 0; i < lines.length; i++) {
            if (from < 0 && lines[i].matches("\\s+[\\w<>\\[\\] ]+\\(.*\\) \\{") && !lines[i].matches("\\s+(if|for|while|switch|\\}).*")) {
                from = i;
                indent = lines[i].replaceAll("\\S.*", "");
            } else if (from >= 0 && lines[i].equals(indent + "}")) {
                hold("11: a short method: " + lines[from].trim(), i - from <= 60);
                from = -1;
            }
        }
        hold("11: every method was seen to end", from < 0);
    }

    public static void main(String[] args) throws Exception {
        face();
        text();
        System.out.println(wrong + " rules broken");
        if (wrong != 0) {
            System.exit(1);
        }
    }
}
