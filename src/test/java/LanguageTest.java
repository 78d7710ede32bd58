import java.lang.reflect.Array;
import java.lang.reflect.Field;
import java.lang.reflect.Method;
import java.lang.reflect.Modifier;
import java.nio.file.Files;
import java.nio.file.Path;
import java.util.ArrayList;
import java.util.IdentityHashMap;
import java.util.List;
import java.util.Map;
import java.util.Set;
import java.util.TreeSet;
import java.util.regex.Matcher;
import java.util.regex.Pattern;

/** The rules of ../shared/LANGUAGE.md that can be looked at from outside, each under its number. */
public final class LanguageTest {
    private static final Path MAIN = Path.of("src/main/java");
    private static final Set<String> LIBRARY = Set.of("Math.max", "Integer.bitCount");
    private static final String[] FORBIDDEN = {"package", "import", "protected", "throw", "throws", "try", "catch",
        "finally", "synchronized", "assert", "native", "volatile", "double", "float", "String", "Object", "System",
        "Thread", "while", "->", "::", "@", "\""};

    public static void main(String[] args) throws Exception {
        String[] files = MAIN.toFile().list();
        Due.is("rule 1: files", files == null ? 0 : files.length, 1);
        String source = Files.readString(MAIN.resolve("ScarredLog.java"));
        String code = source.replaceAll("(?s)/\\*.*?\\*/", "").replaceAll("//[^\n]*", "");
        members();
        words(code);
        lengths(source);
        room();
        nothingIsMadeByCalls();
        Due.end();
    }

    private static void members() {
        Class<?>[] inside = ScarredLog.class.getDeclaredClasses();
        Due.yes("rule 11: classes " + inside.length, inside.length < 12);
        List<Class<?>> all = new ArrayList<>(List.of(inside));
        all.add(ScarredLog.class);
        Set<String> face = new TreeSet<>();
        for (Method m : ScarredLog.class.getMethods()) {
            face.add(m.getName());
        }
        for (Class<?> c : all) {
            int seen = c.getModifiers() & (Modifier.PUBLIC | Modifier.PROTECTED);
            Due.yes("rule 1: " + c, c == ScarredLog.class || seen == 0 && Modifier.isStatic(c.getModifiers()));
            for (Method m : c.getDeclaredMethods()) {
                Due.yes("rule 11: " + m, m.getParameterCount() <= 7);
                Due.yes("rule 1: " + m, Modifier.isPublic(m.getModifiers()) || !face.contains(m.getName()));
            }
            fields(c);
        }
    }

    private static void fields(Class<?> c) {
        int own = 0;
        for (Field f : c.getDeclaredFields()) {
            boolean isStatic = Modifier.isStatic(f.getModifiers());
            own += isStatic ? 0 : 1;
            Due.yes("rule 5: " + f, !isStatic || Modifier.isFinal(f.getModifiers()) && f.getType() == int.class);
        }
        Due.yes("rule 11: fields of " + c, own <= 20);
    }

    private static void words(String code) {
        for (String word : FORBIDDEN) {
            String edge = Character.isLetter(word.charAt(0)) ? "\\b" : "";
            Due.no("has " + word, Pattern.compile(edge + Pattern.quote(word) + edge).matcher(code).find());
        }
        Due.no("rule 5: static block", Pattern.compile("static\\s*\\{").matcher(code).find());
        Set<String> own = new TreeSet<>();
        for (Class<?> c : ScarredLog.class.getDeclaredClasses()) {
            own.add(c.getSimpleName());
        }
        Matcher use = Pattern.compile("\\b([A-Z]\\w*[a-z]\\w*)\\.(\\w+)").matcher(code);
        while (use.find()) {
            Due.yes("rule 4: " + use.group(), own.contains(use.group(1)) || LIBRARY.contains(use.group()));
        }
    }

    /** A method ends at the brace that stands as far in as its first line. */
    private static void lengths(String source) {
        String[] lines = source.split("\n");
        int methods = 0;
        for (int i = 0; i < lines.length; i++) {
            Matcher head = Pattern.compile("( {4}| {8})(?!\\s|if|for|switch|while|do|else|return).*\\) \\{").matcher(lines[i]);
            if (!head.matches()) {
                continue;
            }
            int end = i;
            while (end < lines.length && !lines[end].equals(head.group(1) + "}")) {
                end++;
            }
            methods++;
            Due.yes("rule 11: length of " + lines[i].trim(), end - i <= 60);
        }
        Due.yes("methods found: " + methods, methods > 60);
    }

    /** All calls of one run live in one room of 600,000 objects and 7.3 million fields and elements. */
    private static void room() throws Exception {
        Map<Object, Boolean> seen = new IdentityHashMap<>();
        int fields = measure(new ScarredLog(5), seen);
        Due.yes("objects of one object: " + seen.size(), seen.size() <= 100);
        Due.yes("fields and elements of one object: " + fields, fields <= 2500);
    }

    private static int measure(Object o, Map<Object, Boolean> seen) throws Exception {
        if (o == null || seen.put(o, true) != null) {
            return 0;
        }
        int count = 0;
        if (o.getClass().isArray()) {
            for (int i = 0; i < Array.getLength(o); i++) {
                count += 1 + (o instanceof Object[] row ? measure(row[i], seen) : 0);
            }
            return count;
        }
        for (Field f : o.getClass().getDeclaredFields()) {
            if (!Modifier.isStatic(f.getModifiers())) {
                f.setAccessible(true);
                count += 1 + (f.getType().isPrimitive() ? 0 : measure(f.get(o), seen));
            }
        }
        return count;
    }

    private static void nothingIsMadeByCalls() {
        com.sun.management.ThreadMXBean meter =
                (com.sun.management.ThreadMXBean) java.lang.management.ManagementFactory.getThreadMXBean();
        ScarredLog[] logs = new ScarredLog[200];
        for (int i = 0; i < logs.length; i++) {
            logs[i] = new ScarredLog(5);
        }
        meter.getCurrentThreadAllocatedBytes();
        long before = meter.getCurrentThreadAllocatedBytes();
        for (ScarredLog x : logs) {
            for (int round = 0; round < 15; round++) {
                callAll(x, round);
            }
        }
        long made = meter.getCurrentThreadAllocatedBytes() - before;
        // One object a round would be 48,000 bytes at least; the meter itself makes a few.
        Due.yes("rule 12: bytes made by calls: " + made, made < 24000);
        Due.is("the last ballot, as each node led in each of its rounds", logs[0].look(4, 2), 28);
    }

    private static void callAll(ScarredLog x, int round) {
        int n = round % 5;
        int a = (n + 1) % 5;
        int s = 1 + round % 8;
        x.ask(round % 4, round);
        x.lead(n);
        for (int i = 0; i < 5; i++) {
            x.promise(n, i);
        }
        x.route(1 + round % 30, n);
        for (int i = 0; i < 5; i++) {
            x.vote(n, i, s);
        }
        x.tell(n, a);
        x.route(1 + round % 30, n);
        x.arm(a, 3);
        x.crash(a);
        // Not both at once, as a node with a slot that can't be mended leads no more.
        if (round % 2 == 0) {
            x.flip(a, 2 * s, round % 64);
        } else {
            x.wipe(a, 2 * s + 1);
        }
        x.restart(a);
        x.mend(a, n, s);
        x.look(n, round % 7);
        x.slot(a, s);
        x.plan(n, s);
        x.chosen(n, s);
        x.value(n, round % 4);
        x.octet(n, round % 144);
        x.reply(1 + round % 30, round % 2 == 0);
    }
}
