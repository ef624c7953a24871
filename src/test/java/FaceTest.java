import java.lang.reflect.Array;
import java.lang.reflect.Constructor;
import java.lang.reflect.Field;
import java.lang.reflect.InvocationTargetException;
import java.lang.reflect.Method;
import java.lang.reflect.Modifier;
import java.nio.file.Files;
import java.nio.file.Path;
import java.util.ArrayDeque;
import java.util.Arrays;
import java.util.Collections;
import java.util.Deque;
import java.util.HashSet;
import java.util.IdentityHashMap;
import java.util.Random;
import java.util.Set;
import java.util.TreeSet;
import java.util.regex.Matcher;
import java.util.regex.Pattern;

/** The public face, that no call throws for any arguments, and what LANGUAGE.md rules out in the text. */
public final class FaceTest {
    private static final String[] FACE = {
        "go(int)", "member(int,int,int)", "rate(int,int,int)", "lie(int,long,long)", "rest(int,boolean)",
        "counter(int)", "of(int,int)", "ask(int,int)", "deliver(int)", "lose(int)", "twice(int)",
        "letter(int,int)", "heard(int,int,int)", "votes(int,long)", "council(int,int,int)", "meet(int,int)",
        "lead(int,int)", "stamp(int)", "given(int,int)", "ahead(int,int)", "wait(int)", "event(int)",
        "link(int,int)", "mend()", "order(int)", "time(int)", "ring(int)", "count(int)"};
    private static final String[] RULED_OUT = {
        "\\bthrows?\\b", "\\btry\\b", "\\bcatch\\b", "\\bsynchronized\\b", "\\bassert\\b", "->", "::",
        "\\bimport\\b", "\\bpackage\\b", "Exact\\b", "\\bSystem\\.(?!arraycopy)", "\\bThread\\b", "\\bRandom\\b",
        "\\bhashCode\\b", "\\btoString\\b", "\\bObject\\b", "\\bstatic\\s*\\{", "\\bwhile\\s*\\(true\\)", "\\(;;\\)"};
    private static int wrong = 0;

    private static void check(boolean right, String what) {
        if (!right) {
            wrong++;
            System.out.println(what);
        }
    }

    public static void main(String[] args) throws Exception {
        face();
        neverThrows();
        text();
        room();
        System.out.println(wrong == 0 ? "the face is as due" : wrong + " faults");
        if (wrong != 0) {
            System.exit(1);
        }
    }

    private static String signature(Method m) {
        StringBuilder s = new StringBuilder(m.getName()).append('(');
        for (Class<?> c : m.getParameterTypes()) {
            s.append(s.charAt(s.length() - 1) == '(' ? "" : ",").append(c.getName());
        }
        return s.append(')').toString();
    }

    private static void face() throws Exception {
        Class<?> c = ClockCouncil.class;
        check(Modifier.isPublic(c.getModifiers()) && Modifier.isFinal(c.getModifiers()), "the class is not public final");
        Set<String> found = new TreeSet<>();
        for (Method m : c.getDeclaredMethods()) {
            if (Modifier.isPrivate(m.getModifiers()) || m.isSynthetic()) {
                continue;
            }
            found.add(signature(m));
            check(m.getReturnType() == long.class, m + " does not answer a long");
            check(Modifier.isPublic(m.getModifiers()) && !Modifier.isStatic(m.getModifiers()), m + " is no method of the face");
        }
        check(found.equals(new TreeSet<>(Arrays.asList(FACE))), "the methods are " + found);
        Constructor<?>[] made = c.getDeclaredConstructors();
        check(made.length == 1 && Modifier.isPublic(made[0].getModifiers()) && made[0].getParameterCount() == 0, "constructor");
        fields(c);
    }

    private static void fields(Class<?> c) throws Exception {
        for (Field f : c.getDeclaredFields()) {
            int is = f.getModifiers();
            check(Modifier.isPrivate(is) || f.getName().equals("NO"), f + " is not private");
            check(!Modifier.isStatic(is) || Modifier.isFinal(is), f + " is static and not final");
        }
        Field no = c.getField("NO");
        check(no.getType() == long.class && no.getLong(null) == -9000000000000000000L, "NO");
        check(c.getDeclaredClasses().length <= 12, "too many classes");
        for (Class<?> inside : c.getDeclaredClasses()) {
            check(Modifier.isStatic(inside.getModifiers()), inside + " is not static");
            int own = 0;
            for (Field f : inside.getDeclaredFields()) {
                own += Modifier.isStatic(f.getModifiers()) ? 0 : 1;
            }
            check(own <= 20, inside + " has too many fields");
        }
    }

    private static final long[] EDGES = {Long.MIN_VALUE, Long.MAX_VALUE, Integer.MIN_VALUE, Integer.MAX_VALUE,
        -1000000000001L, 1000000000000L, -1, 0, 1, 2, 9, 10, 29, 30, 60, 99, 100, 199, 200, 1000, 100000, 1000000};

    private static long draw(Random r) {
        return r.nextInt(4) == 0 ? EDGES[r.nextInt(EDGES.length)] : r.nextInt(6);
    }

    private static void neverThrows() throws Exception {
        Method[] calls = Arrays.stream(ClockCouncil.class.getDeclaredMethods())
            .filter(m -> Modifier.isPublic(m.getModifiers()))
            .sorted((a, b) -> a.getName().compareTo(b.getName())).toArray(Method[]::new);
        for (int seed = 0; seed < 300; seed++) {
            Random r = new Random(seed);
            ClockCouncil x = new ClockCouncil();
            for (int i = 0; i < 2000; i++) {
                Method m = calls[r.nextInt(calls.length)];
                Object[] a = new Object[m.getParameterCount()];
                for (int k = 0; k < a.length; k++) {
                    Class<?> type = m.getParameterTypes()[k];
                    long v = draw(r);
                    a[k] = type == int.class ? (Object) (int) v : type == long.class ? (Object) v : (Object) (v % 2 == 0);
                }
                try {
                    m.invoke(x, a);
                } catch (InvocationTargetException e) {
                    check(false, m + Arrays.toString(a) + " threw " + e.getCause());
                }
            }
        }
    }

    /** All rows full: what one object holds then is all that it ever made, as no call makes what it throws away. */
    private static void room() throws Exception {
        ClockCouncil x = new ClockCouncil();
        for (int i = 0; i < 10; i++) {
            x.member(2, 0, 5);
        }
        for (int i = 0; i < 200; i++) {
            x.ask(i % 10, (i + 1 + i / 10 % 9) % 10);
        }
        for (int i = 0; i < 90; i++) {
            x.deliver(i);
            x.deliver(i);
        }
        for (int i = 0; i < 100; i++) {
            x.stamp(0);
        }
        check(x.of(9, 8) == 9, "not all have HEARD of all");
        long[] held = held(x);
        check(held[0] <= 450 && held[1] <= 4000, "an object holds " + held[0] + " objects, " + held[1] + " fields and elements");
    }

    private static long[] held(Object root) throws Exception {
        Set<Object> seen = Collections.newSetFromMap(new IdentityHashMap<>());
        Deque<Object> open = new ArrayDeque<>();
        open.add(root);
        seen.add(root);
        long parts = 0;
        while (!open.isEmpty()) {
            Object at = open.remove();
            if (at.getClass().isArray()) {
                parts += Array.getLength(at);
                for (int i = 0; at instanceof Object[] row && i < row.length; i++) {
                    see(row[i], seen, open);
                }
                continue;
            }
            for (Field f : at.getClass().getDeclaredFields()) {
                if (!Modifier.isStatic(f.getModifiers())) {
                    parts++;
                    f.setAccessible(true);
                    see(f.getType().isPrimitive() ? null : f.get(at), seen, open);
                }
            }
        }
        return new long[] {seen.size(), parts};
    }

    private static void see(Object x, Set<Object> seen, Deque<Object> open) {
        if (x != null && seen.add(x)) {
            open.add(x);
        }
    }

    private static void text() throws Exception {
        String all = Files.readString(Path.of("src/main/java/ClockCouncil.java"));
        check(all.chars().allMatch(c -> c < 128), "a sign beyond 127");
        String code = all.replaceAll("(?s)/\\*.*?\\*/", "").replaceAll("//[^\n]*", "");
        for (String bad : RULED_OUT) {
            Matcher m = Pattern.compile(bad).matcher(code);
            check(!m.find(), "the text has " + bad);
        }
        Set<String> names = new HashSet<>();
        for (String s : FACE) {
            names.add(s.substring(0, s.indexOf('(')));
        }
        Matcher m = Pattern.compile("\n( +)((?:[a-zA-Z\\[\\]]+ )+)([a-zA-Z]+)\\(([^;{}]*)\\) \\{\n(.*?)\n\\1\\}", Pattern.DOTALL).matcher(code);
        int seen = 0;
        for (int at = 0; m.find(at); at = m.end(4)) {
            if (m.group(2).contains("return") || m.group(2).contains("else")) {
                continue;
            }
            seen++;
            check(m.group(2).contains("public") || !names.contains(m.group(3)), m.group(3) + " bears the name of a public method");
            check(m.group(5).split("\n").length <= 60, m.group(3) + " is long");
            check(m.group(4).split(",").length <= 7, m.group(3) + " takes too much");
        }
        check(seen >= FACE.length, "methods were not found in the text");
    }
}
