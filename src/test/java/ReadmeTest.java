import java.lang.reflect.Method;
import java.lang.reflect.Modifier;
import java.nio.file.Files;
import java.nio.file.Path;
import java.util.HashMap;
import java.util.Map;
import java.util.Set;
import java.util.TreeSet;
import java.util.regex.Matcher;
import java.util.regex.Pattern;

/** The example of README.md, each call with the answer behind it, and that its table has every call. */
public final class ReadmeTest {
    private static final Pattern ROW = Pattern.compile(
        "(?:int (\\w+) = \\(int\\) )?c\\.(\\w+)\\((.*)\\); +// (NO|-?\\d+)(?::.*)?");
    private static int wrong = 0;

    private static void fault(String what) {
        wrong++;
        System.out.println(what);
    }

    public static void main(String[] args) throws Exception {
        String readme = Files.readString(Path.of("README.md"));
        Map<String, Method> face = new HashMap<>();
        for (Method m : ClockCouncil.class.getDeclaredMethods()) {
            if (Modifier.isPublic(m.getModifiers())) {
                face.put(m.getName(), m);
            }
        }
        example(readme, face);
        table(readme, face);
        System.out.println(wrong == 0 ? "README.md is as the class" : wrong + " faults in README.md");
        if (wrong != 0) {
            System.exit(1);
        }
    }

    private static void example(String readme, Map<String, Method> face) throws Exception {
        int from = readme.indexOf("```java\n");
        int to = readme.indexOf("```", from + 3);
        if (from < 0 || to < 0) {
            fault("there is no example");
            return;
        }
        String[] rows = readme.substring(from, to).split("\n");
        if (!rows[1].equals("ClockCouncil c = new ClockCouncil();")) {
            fault("the example begins with " + rows[1]);
        }
        ClockCouncil c = new ClockCouncil();
        Map<String, Long> named = new HashMap<>();
        for (int i = 2; i < rows.length; i++) {
            Matcher row = ROW.matcher(rows[i]);
            if (!row.matches() || !face.containsKey(row.group(2))) {
                fault("not a call with its answer: " + rows[i]);
                continue;
            }
            long got = answer(c, face.get(row.group(2)), row.group(3), named);
            long due = row.group(4).equals("NO") ? ClockCouncil.NO : Long.parseLong(row.group(4));
            if (got != due) {
                fault(rows[i] + " answered " + got);
            }
            if (row.group(1) != null) {
                named.put(row.group(1), got);
            }
        }
    }

    private static long answer(ClockCouncil c, Method call, String told, Map<String, Long> named) throws Exception {
        String[] words = told.isEmpty() ? new String[0] : told.split(", ");
        Class<?>[] types = call.getParameterTypes();
        if (words.length != types.length) {
            fault(call.getName() + "(" + told + ") has not as many arguments as are due");
            return Long.MIN_VALUE;
        }
        Object[] a = new Object[words.length];
        for (int i = 0; i < a.length; i++) {
            if (types[i] == boolean.class) {
                a[i] = words[i].equals("true");
                continue;
            }
            long v = named.containsKey(words[i]) ? named.get(words[i]) : Long.parseLong(words[i]);
            a[i] = types[i] == int.class ? (Object) (int) v : (Object) v;
        }
        return (Long) call.invoke(c, a);
    }

    private static void table(String readme, Map<String, Method> face) {
        Set<String> told = new TreeSet<>();
        for (String row : readme.split("\n")) {
            Matcher call = Pattern.compile("`(\\w+)\\(([^)]*)\\)`").matcher(row);
            while (row.startsWith("| `") && call.find()) {
                told.add(call.group(1));
                int args = call.group(2).isEmpty() ? 0 : call.group(2).split(", ").length;
                Method m = face.get(call.group(1));
                if (m == null || m.getParameterCount() != args) {
                    fault("the class has no " + call.group());
                }
            }
        }
        if (!told.equals(new TreeSet<>(face.keySet()))) {
            fault("the table has " + told);
        }
    }
}
