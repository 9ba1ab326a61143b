import java.lang.reflect.InvocationTargetException;
import java.lang.reflect.Method;
import java.util.ArrayList;
import java.util.Arrays;
import java.util.Comparator;
import java.util.List;
import java.util.Random;

/**
 * Calls of all kinds with likely, edge and wild arguments: none throws, and none that is refused changes what is counted.
 * Behind its 512th call an object's answers are free, so there it is only seen that none throws.
 */
public final class NeverThrowsTest {
    private static final Checks C = new Checks("NeverThrowsTest");
    private static final Random R = new Random(7);
    private static final int[] WILD = {Integer.MIN_VALUE, Integer.MIN_VALUE + 1, -1000000, -1001, -41, -2, -1, 400, 401, 1001,
        1048575, 1048576, 74051160, 74051161, 1 << 28, 1 << 30, Integer.MAX_VALUE - 1, Integer.MAX_VALUE};
    private static final String[] TEXTS = {"pq(1=1)", "po*q-f/s(m>0&!f=0|q%n=1)", "l(f<50)", "l(q>0);l(1/[n-2]>0|n=3)",
        "p1(", "l(1=1", "p65536*32768/[0-1](65536*32768%[0-1]=0)", "p[[[[[[[", ";;;"};

    public static void main(String[] args) throws IllegalAccessException {
        List<Method> calls = new ArrayList<>();
        for (Method method : OilHome.class.getDeclaredMethods()) {
            if (java.lang.reflect.Modifier.isPublic(method.getModifiers())) {
                calls.add(method);
            }
        }
        calls.sort(Comparator.comparing(Method::getName));
        C.due("methods of the face", calls.size(), 59);
        for (int run = 0; run < 2400; run++) {
            OilHome x = new OilHome();
            if (run % 3 > 0) {
                furnish(x);
            }
            // Some 150 calls furnish it, and one asks for six more at most.
            for (int call = 0; call < 55; call++) {
                ask(x, calls.get(R.nextInt(calls.size())), true);
            }
            for (int call = 0; run % 8 == 0 && call < 800; call++) {
                ask(x, calls.get(R.nextInt(calls.size())), false);
            }
        }
        C.end();
    }

    private static void furnish(OilHome x) {
        x.now(R.nextInt(100));
        for (int k = 0; k < 10; k++) {
            x.kitchen(R.nextInt(100), R.nextInt(100), R.nextInt(51), 20 + R.nextInt(381));
            x.fetch(k, 0, R.nextInt(401), R.nextInt(1001), R.nextInt(1001), R.nextInt(10));
            x.fetch(k, R.nextInt(1 + x.count(0)), R.nextInt(401), R.nextInt(1001), R.nextInt(1001), 99);
            Checks.contract(x, k, TEXTS[R.nextInt(2)]);
            x.batch(1 << k);
            x.proof(k, R.nextInt(30), 30 + R.nextInt(30), R.nextInt(10));
            x.sewer(R.nextInt(100), R.nextInt(100));
            x.drum();
        }
        x.lorry(20 + R.nextInt(500));
        x.lorry(20 + R.nextInt(2000 - 19));
    }

    private static int argument(int run) {
        switch (run) {
            case 0:
                return WILD[R.nextInt(WILD.length)];
            case 1:
                return R.nextInt();
            case 2:
                return R.nextInt(1001);
            case 3:
                return R.nextInt(400);
            case 4:
                return R.nextInt(1 << 20);
            default:
                return R.nextInt(12) - 1;
        }
    }

    private static void ask(OilHome x, Method call, boolean promised) throws IllegalAccessException {
        if (R.nextInt(8) == 0) {
            Checks.feedText(x, TEXTS[R.nextInt(TEXTS.length)]);
        }
        Class<?>[] kinds = call.getParameterTypes();
        Object[] arguments = new Object[kinds.length];
        // Most calls are wild in one place at most, or none would get far.
        int wild = R.nextInt(6);
        for (int i = 0; i < kinds.length; i++) {
            arguments[i] = kinds[i] == boolean.class ? (Object) R.nextBoolean()
                    : (Object) argument(i == wild ? R.nextInt(5) : 2 + R.nextInt(7));
        }
        // The tape may be emptied where a call is refused.
        int counted = (R.nextInt(89) + 4) % 90;
        long before = promised ? x.count(counted) : 0;
        String told = call.getName() + Arrays.toString(arguments);
        try {
            Object answer = call.invoke(x, arguments);
            boolean refused = answer.equals(false) || answer instanceof Number n && n.longValue() < 0;
            if (promised && refused) {
                C.due(told + " was refused, but changed count(" + counted + ")", x.count(counted), before);
            }
        } catch (InvocationTargetException thrown) {
            C.due(told + " threw " + thrown.getCause(), 1, 0);
        }
    }
}
