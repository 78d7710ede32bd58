import java.lang.reflect.Constructor;
import java.lang.reflect.Field;
import java.lang.reflect.Method;
import java.lang.reflect.Modifier;
import java.util.Arrays;
import java.util.Random;
import java.util.TreeSet;

/** The public face is just the document's, and no call throws, whatever its arguments are. */
public final class FaceTest {
    private static final String[] FACE = {
        "arm(int,int)boolean", "ask(int,int)int", "chosen(int,int)int", "crash(int)boolean",
        "flip(int,int,int)boolean", "lead(int)int", "look(int,int)int", "mend(int,int,int)int",
        "octet(int,int)int", "plan(int,int)int", "promise(int,int)int", "reply(int,boolean)int",
        "restart(int)boolean", "route(int,int)int", "slot(int,int)int", "tell(int,int)int",
        "value(int,int)int", "vote(int,int,int)int", "wipe(int,int)boolean"};

    public static void main(String[] args) throws Exception {
        face();
        anyArguments();
        Due.end();
    }

    private static void face() {
        TreeSet<String> seen = new TreeSet<>();
        for (Method m : ScarredLog.class.getDeclaredMethods()) {
            if (!Modifier.isPrivate(m.getModifiers())) {
                Due.yes(m + " is public, not static", m.getModifiers() == Modifier.PUBLIC);
                StringBuilder b = new StringBuilder(m.getName()).append('(');
                for (int i = 0; i < m.getParameterCount(); i++) {
                    b.append(i == 0 ? "" : ",").append(m.getParameterTypes()[i].getName());
                }
                seen.add(b.append(')').append(m.getReturnType().getName()).toString());
            }
        }
        Due.yes("the methods " + seen, seen.equals(new TreeSet<>(Arrays.asList(FACE))));
        for (Field f : ScarredLog.class.getDeclaredFields()) {
            Due.yes(f + " is private", Modifier.isPrivate(f.getModifiers()));
        }
        Constructor<?>[] makers = ScarredLog.class.getDeclaredConstructors();
        Due.is("constructors", makers.length, 1);
        Due.yes("constructor", makers[0].toString().equals("public ScarredLog(int)"));
        Due.yes("final", Modifier.isFinal(ScarredLog.class.getModifiers()));
    }

    private static void anyArguments() throws Exception {
        Random random = new Random(7);
        int[] edges = {Integer.MIN_VALUE, -1000000, -9, -1, 0, 1, 2, 3, 4, 5, 8, 9, 17, 18, 30, 31, 40, 41, 63, 64,
            143, 144, 60000, Integer.MAX_VALUE};
        TreeSet<String> names = new TreeSet<>();
        for (int run = 0; run < 200; run++) {
            ScarredLog x = new ScarredLog(edges[random.nextInt(edges.length)]);
            for (Method m : ScarredLog.class.getMethods()) {
                if (m.getDeclaringClass() != ScarredLog.class) {
                    continue;
                }
                names.add(m.getName());
                for (int i = 0; i < 26; i++) {
                    m.invoke(x, anyOf(m, edges, random));
                }
            }
        }
        Due.is("methods called", names.size(), FACE.length);
    }

    private static Object[] anyOf(Method m, int[] edges, Random random) {
        Object[] out = new Object[m.getParameterCount()];
        for (int i = 0; i < out.length; i++) {
            boolean isFlag = m.getParameterTypes()[i] == boolean.class;
            out[i] = isFlag ? (Object) random.nextBoolean() : (Object) edges[random.nextInt(edges.length)];
        }
        return out;
    }
}
