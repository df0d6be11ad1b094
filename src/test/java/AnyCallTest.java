import java.lang.reflect.InvocationTargetException;
import java.lang.reflect.Method;
import java.lang.reflect.Modifier;
import java.util.ArrayList;
import java.util.Arrays;
import java.util.Comparator;
import java.util.List;
import java.util.Random;

/** LANGUAGE.md, rules 6 and 7: whatever is asked in whatever state, no call throws what its promise does not name. */
public final class AnyCallTest {
    private static final Due DUE = new Due();
    private static final int RUNS = 200;
    // Far beyond the 512th call, whose answers are free, but which may not break either.
    private static final int CALLS = 1500;
    private static final int[] EDGES = {Integer.MIN_VALUE, Integer.MIN_VALUE + 1, -33, -2, -1, 31, 32, 100, 101, 299,
        300, 301, 1999, 2000, 2001, 1_000_000_000, 1_000_000_001, Integer.MAX_VALUE - 1, Integer.MAX_VALUE};
    private static final int[] SPANS = {3, 8, 110, 302, 2002, 1 << 15};

    private final Random random;
    private final SureCount x = new SureCount();
    private final List<Method> face = faceInOrder();

    private AnyCallTest(int run) {
        random = new Random(run);
        int full = run % 4;
        fill(full == 0 ? 5 : random.nextInt(6), full >= 2 ? 300 : full == 1 ? random.nextInt(4) : 0);
        if (full == 3) {
            drawAll();
        }
    }

    public static void main(String[] args) {
        DUE.sentence("LANGUAGE.md", "No call may ever throw by itself (only by a throw statement) or fail to end");
        for (int run = 0; run < RUNS; run++) {
            AnyCallTest wild = new AnyCallTest(run);
            for (int call = 0; call < CALLS; call++) {
                wild.askAnything(run, call);
            }
        }
        DUE.end();
    }

    private void fill(int races, int papers) {
        for (int r = 0; r < races; r++) {
            int candidates = 2 + random.nextInt(5);
            x.race(candidates, 1 + random.nextInt(candidates - 1));
        }
        x.box();
        for (int p = 0; p < papers; p++) {
            x.paper(0, 1 | 1 << 3 | (1 + p % 2) << 6 | 1 << 9 | 1 << 12);
        }
    }

    private void drawAll() {
        x.seal(random.nextLong());
        for (int i = 0; i < 20; i++) {
            x.draw(100);
        }
    }

    private void askAnything(int run, int call) {
        Method asked = face.get(random.nextInt(face.size()));
        Object[] with = new Object[asked.getParameterCount()];
        for (int i = 0; i < with.length; i++) {
            with[i] = anyOf(asked.getParameterTypes()[i]);
        }
        String text = "run " + run + ", call " + call + ": " + asked.getName() + Arrays.toString(with);
        DUE.is("as it may", text, () -> howItEnds(asked, with));
    }

    private String howItEnds(Method asked, Object[] with) {
        try {
            asked.invoke(x, with);
            return "as it may";
        } catch (InvocationTargetException e) {
            Class<?> thrown = e.getCause().getClass();
            boolean isNamed = Arrays.asList(asked.getExceptionTypes()).contains(thrown);
            return isNamed ? "as it may" : "throws." + thrown.getSimpleName();
        } catch (IllegalAccessException e) {
            return "can't be called";
        }
    }

    private Object anyOf(Class<?> type) {
        if (type == boolean.class) {
            return random.nextBoolean();
        }
        if (type == long.class) {
            return random.nextLong();
        }
        if (random.nextInt(8) == 0) {
            return EDGES[random.nextInt(EDGES.length)];
        }
        return random.nextInt(20) == 0 ? random.nextInt() : random.nextInt(SPANS[random.nextInt(SPANS.length)]);
    }

    /** The machine tells methods in no order of its own; the runs are to be the same each time. */
    private static List<Method> faceInOrder() {
        List<Method> face = new ArrayList<>();
        for (Method m : SureCount.class.getDeclaredMethods()) {
            if (Modifier.isPublic(m.getModifiers())) {
                face.add(m);
            }
        }
        face.sort(Comparator.comparing(Method::getName));
        return face;
    }
}
