import java.lang.reflect.Executable;
import java.lang.reflect.Field;
import java.lang.reflect.Method;
import java.lang.reflect.Modifier;
import java.nio.file.Files;
import java.nio.file.Path;
import java.util.ArrayList;
import java.util.List;
import java.util.Set;
import java.util.TreeSet;
import java.util.regex.Matcher;
import java.util.regex.Pattern;

/** The rules of LANGUAGE.md beside its first, as far as the text and the compiled class show them. */
final class LanguageTest {
    private static final int OBJECTS = 200;

    public static void main(String[] args) throws Exception {
        String code = withoutComments(Files.readString(Path.of("src/main/java/LeasePair.java")));
        words(code);
        library(code);
        loops(code);
        List<Class<?>> classes = new ArrayList<>(List.of(LeasePair.class.getDeclaredClasses()));
        Check.yes("rule 11: at most twelve classes", classes.size() + 1 <= 12);
        classes.add(LeasePair.class);
        for (Class<?> each : classes) {
            fields(each);
            methods(each);
        }
        callsMakeNothing();
        Check.end();
    }

    private static String withoutComments(String text) {
        return text.replaceAll("(?s)/\\*.*?\\*/", "").replaceAll("//[^\n]*", "");
    }

    /** What rules 2, 3, 6 and 13 forbid, and more that the program does without. */
    private static void words(String code) {
        String[] forbidden = {"import", "package", "throw", "throws", "try", "catch", "finally", "synchronized", "assert",
            "double", "float", "var", "instanceof", "extends", "implements", "native", "volatile", "hashCode", "toString",
            "equals", "System", "Thread", "Object", "protected"};
        for (String word : forbidden) {
            Check.no("the word " + word, Pattern.compile("\\b" + word + "\\b").matcher(code).find());
        }
        Check.no("a lambda", code.contains("->"));
        Check.no("a method reference", code.contains("::"));
        Check.no("a text", code.contains("\""));
        Check.no("a static block", Pattern.compile("\\bstatic\\s*\\{").matcher(code).find());
    }

    /** Rule 4: every name with a great first letter before a dot is Math. */
    private static void library(String code) {
        Set<String> used = new TreeSet<>();
        Matcher name = Pattern.compile("\\b([A-Z][a-z]\\w*)\\.(\\w+)").matcher(code);
        while (name.find()) {
            used.add(name.group(1) + "." + name.group(2));
        }
        Check.due("rule 4: the library", used, new TreeSet<>(Set.of("Math.max", "Math.min")));
    }

    /** Rule 9: every loop counts up to a bound that stands in its head. */
    private static void loops(String code) {
        Check.no("a while or do", Pattern.compile("\\b(while|do)\\b").matcher(code).find());
        Matcher head = Pattern.compile("\\bfor \\((.*)\\) \\{").matcher(code);
        while (head.find()) {
            Check.yes("rule 9: " + head.group(),
                    head.group(1).matches("int (\\w) = .+; \\1 < (\\w+)( && [^;]+)?; \\1\\+\\+"));
        }
    }

    /** Rules 3, 5 and 11. */
    private static void fields(Class<?> each) {
        int own = 0;
        for (Field field : each.getDeclaredFields()) {
            Class<?> type = field.getType().isArray() ? field.getType().getComponentType() : field.getType();
            boolean number = type == int.class || type == boolean.class;
            Check.yes("rule 3: " + field, number || type.getEnclosingClass() == LeasePair.class);
            if (Modifier.isStatic(field.getModifiers())) {
                Check.yes("rule 5: " + field, Modifier.isFinal(field.getModifiers()) && field.getType() == int.class);
            } else {
                own++;
            }
        }
        Check.yes("rule 11: at most twenty fields beside constants: " + each, own <= 20);
    }

    /** Rule 1, of the classes inside too, and rule 11. */
    private static void methods(Class<?> each) {
        Set<String> face = new TreeSet<>();
        for (Method method : LeasePair.class.getDeclaredMethods()) {
            if (Modifier.isPublic(method.getModifiers())) {
                face.add(method.getName());
            }
        }
        List<Executable> all = new ArrayList<>(List.of(each.getDeclaredMethods()));
        all.addAll(List.of(each.getDeclaredConstructors()));
        for (Executable method : all) {
            Check.yes("rule 11: " + method, method.getParameterCount() <= 7);
            boolean hidden = Modifier.isPrivate(method.getModifiers());
            Check.yes("rule 1: " + method, hidden ? !face.contains(method.getName()) : each == LeasePair.class);
        }
    }

    /** Rule 12, and the room: what an object needs is made with it. */
    private static void callsMakeNothing() {
        com.sun.management.ThreadMXBean meter =
                (com.sun.management.ThreadMXBean) java.lang.management.ManagementFactory.getThreadMXBean();
        LeasePair[] pairs = new LeasePair[OBJECTS];
        for (int i = 0; i < OBJECTS; i++) {
            pairs[i] = new LeasePair();
        }
        useUp(new LeasePair(), 7);
        long before = meter.getCurrentThreadAllocatedBytes();
        for (int i = 0; i < OBJECTS; i++) {
            useUp(pairs[i], i);
        }
        long made = meter.getCurrentThreadAllocatedBytes() - before;
        // The least object has 16 bytes: one for every 32nd call would be seen.
        Check.yes("rule 12: calls make nothing: " + made + " bytes", made < OBJECTS * Counted.LIMIT / 2);
    }

    /** 512 calls of all kinds, by a plain row of numbers that look random. */
    private static void useUp(LeasePair pair, int seed) {
        int number = seed * 7919 + 1;
        for (int call = 0; call < Counted.LIMIT; call++) {
            number = number * 1103515245 + 12345;
            int a = number >>> 16 & 7;
            int b = number >>> 20 & 1;
            switch (number >>> 24 & 15) {
                case 0 -> pair.tick();
                case 1, 2 -> pair.ask(a, b);
                case 3 -> pair.release(a, b);
                case 4 -> pair.state(b);
                case 5 -> pair.lose(a);
                case 6 -> pair.stop(a);
                case 7 -> pair.start(b);
                case 8 -> pair.alone(b);
                case 9 -> pair.link(a > 1);
                case 10 -> pair.entry(b, a, a);
                case 11 -> pair.client(a, b);
                case 12 -> pair.message(b, a);
                case 13 -> pair.messages();
                default -> pair.deliver(a);
            }
        }
    }
}
