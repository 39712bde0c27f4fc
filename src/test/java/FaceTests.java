import java.lang.management.ManagementFactory;
import java.lang.reflect.Constructor;
import java.lang.reflect.Field;
import java.lang.reflect.Method;
import java.lang.reflect.Modifier;
import java.nio.file.Files;
import java.nio.file.Path;
import java.util.Random;
import java.util.Set;
import java.util.TreeSet;
import java.util.regex.Matcher;
import java.util.regex.Pattern;

/** The public face as the document has it, the rules of LANGUAGE.md that the source shows, and the room of calls. */
public final class FaceTests {
    private static final String[] METHODS = {
        "int job(int,int,int)", "int renew(int,int,int)", "int of(int,int)", "int set(int,int)", "int feed(int)",
        "int read()", "int plan(int)", "int move(int,int)", "int swap(int)", "int step(int,int)", "int at(int)",
        "long time(int,int)", "long told(int)", "long would(int)", "int ruled(int,int)", "long cost(int,int,int)",
        "long least(int,int)", "int best(int,int,int)", "int slack(int)", "int see(int,int)", "int fits(int,int)",
        "long odds(int,int)", "long mean(int)", "int event(int,int)", "long after(int)", "int book(int,int)",
        "int looked()", "int judge(int,int)", "int image()", "int undo()", "int count(int)", "int tape(int,int,int)",
        "int item(int,int,long)", "long peek(int,int)", "int shift(int,int,int,int,int)"};
    private static final Set<String> CONSTANTS = Set.of("NONE", "BAD", "STATE", "FULL", "NO");

    private static int wrong = 0;

    private static void hold(boolean held, String what) {
        if (!held) {
            wrong++;
            System.out.println("not so: " + what);
        }
    }

    private static String told(Method m) {
        StringBuilder b = new StringBuilder(m.getReturnType().getName()).append(' ').append(m.getName()).append('(');
        for (int i = 0; i < m.getParameterCount(); i++) {
            b.append(i == 0 ? "" : ",").append(m.getParameterTypes()[i].getName());
        }
        return b.append(')').toString();
    }

    private static void face() {
        Class<?> c = PressHalls.class;
        hold(Modifier.isPublic(c.getModifiers()) && Modifier.isFinal(c.getModifiers()), "public and final");
        Set<String> due = new TreeSet<>(Set.of(METHODS));
        Set<String> there = new TreeSet<>();
        Set<String> publicNames = new TreeSet<>();
        for (Method m : c.getDeclaredMethods()) {
            if (Modifier.isPublic(m.getModifiers())) {
                there.add(told(m));
                publicNames.add(m.getName());
                hold(!Modifier.isStatic(m.getModifiers()), m.getName() + " is of an object");
            }
        }
        hold(due.equals(there), "the methods of the document and no others: " + there);
        for (Method m : c.getDeclaredMethods()) {
            boolean open = Modifier.isPublic(m.getModifiers());
            hold(open || Modifier.isPrivate(m.getModifiers()), m.getName() + " is public or private");
            hold(open || !publicNames.contains(m.getName()), m.getName() + " bears no public name");
            hold(m.getParameterCount() <= 7, m.getName() + " has at most seven parameters");
        }
        for (Constructor<?> k : c.getDeclaredConstructors()) {
            hold(Modifier.isPublic(k.getModifiers()) && k.getParameterCount() == 0, "one public constructor");
        }
        for (Field f : c.getDeclaredFields()) {
            boolean constant = CONSTANTS.contains(f.getName());
            hold(constant == Modifier.isPublic(f.getModifiers()), f.getName() + " is public only if a constant");
            hold(constant || Modifier.isPrivate(f.getModifiers()), f.getName() + " is private");
        }
        for (Class<?> inside : c.getDeclaredClasses()) {
            hold(Modifier.isStatic(inside.getModifiers()), inside.getName() + " is static");
            for (Method m : inside.getDeclaredMethods()) {
                hold(!publicNames.contains(m.getName()), inside.getName() + "." + m.getName() + " bears no public name");
            }
        }
        staticFields(c);
        for (Class<?> inside : c.getDeclaredClasses()) staticFields(inside);
    }

    private static void staticFields(Class<?> c) {
        int own = 0;
        for (Field f : c.getDeclaredFields()) {
            if (Modifier.isStatic(f.getModifiers())) {
                hold(Modifier.isFinal(f.getModifiers()), c.getName() + "." + f.getName() + " is final");
            } else {
                own++;
            }
        }
        hold(own <= 20, c.getName() + " has at most twenty fields");
    }

    private static void source() throws Exception {
        String all = Files.readString(Path.of("src/main/java/PressHalls.java"));
        String code = all.replaceAll("(?s)/\\*.*?\\*/", "").replaceAll("//[^\n]*", "");
        String[] words = {"throw", "throws", "try", "catch", "synchronized", "assert", "package", "Exception", "Exact",
            "double", "float", "Integer", "System.out", "Random", "Thread", "nanoTime", "currentTimeMillis"};
        for (String word : words) {
            hold(!Pattern.compile("\\b" + Pattern.quote(word) + "\\b").matcher(code).find(), "no " + word);
        }
        hold(!code.contains("->") && !code.contains("::"), "no lambda, no method reference");
        hold(all.chars().allMatch(sign -> sign < 128), "plain signs alone");
        Matcher imports = Pattern.compile("(?m)^import (.*);").matcher(code);
        while (imports.find()) {
            hold(imports.group(1).equals("java.util.Arrays"), "no import of " + imports.group(1));
        }
        // "new" stands in initialisers and constructors alone: a call makes nothing.
        hold(Pattern.compile("return new|\\w\\(new ").matcher(code).results().count() == 0, "no call makes anything");
    }

    private static final int[] ARGUMENTS = {0, 1, 2, 3, 4, 5, 0, 1, 2, 3, -1, 6, 7, 60, Integer.MIN_VALUE,
        Integer.MAX_VALUE};

    private static Object[] drawn(Method m, Random random) {
        Object[] args = new Object[m.getParameterCount()];
        for (int i = 0; i < args.length; i++) {
            int v = ARGUMENTS[random.nextInt(ARGUMENTS.length)];
            args[i] = m.getParameterTypes()[i] == long.class ? (Object) (long) v : (Object) v;
        }
        return args;
    }

    /** Any arguments, in any state: a call that throws comes out of invoke. */
    private static void nothingThrown() throws Exception {
        Random random = new Random(5);
        Method[] methods = PressHalls.class.getDeclaredMethods();
        java.util.Arrays.sort(methods, java.util.Comparator.comparing(Method::getName));
        for (int run = 0; run < 300; run++) {
            PressHalls x = new PressHalls();
            for (int call = 0; call < 512; call++) {
                Method m = methods[random.nextInt(methods.length)];
                if (Modifier.isPublic(m.getModifiers())) m.invoke(x, drawn(m, random));
            }
        }
    }

    /** The dearest calls again and again: what they made would show as bytes of this thread. */
    private static void nothingMade() {
        com.sun.management.ThreadMXBean bean = (com.sun.management.ThreadMXBean) ManagementFactory.getThreadMXBean();
        PressHalls x = new PressHalls();
        for (int i = 0; i < 6; i++) x.job(5 + i % 3, i, 6);
        long before = bean.getCurrentThreadAllocatedBytes();
        long sum = 0;
        for (int i = 0; i < 2000; i++) {
            sum += x.odds(0, 0) + x.least(2, 1) + x.step(2, 100) + x.plan(i % 4) + x.fits(1, 1) + x.slack(1) + x.image();
            sum += x.after(1) + x.tape(0, i % 5, 60) + x.feed('m') + x.feed('1') + x.read() + x.undo() + x.told(8);
            sum += x.shift(0, 0, 0, 1, 5) + x.judge(0, 0) + x.looked() + x.see(-1, 0) + x.see(0, 0) + x.mean(0);
        }
        long made = bean.getCurrentThreadAllocatedBytes() - before;
        hold(made < 200_000, "no call makes anything: " + made + " bytes (" + sum + ")");
    }

    public static void main(String[] args) throws Exception {
        face();
        source();
        nothingThrown();
        nothingMade();
        System.out.println("FaceTests: " + (wrong == 0 ? "as it must be" : wrong + " wrong"));
        if (wrong != 0) System.exit(1);
    }
}
