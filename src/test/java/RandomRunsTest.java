import java.lang.reflect.InvocationTargetException;
import java.lang.reflect.Method;
import java.util.ArrayList;
import java.util.Arrays;
import java.util.List;
import java.util.Random;

/**
 * Long runs of any calls, the same ones each time: only exceptions that the document names are thrown, and by the
 * class itself; a refused call changes nothing; the house stays sound; and a second house answers the same.
 */
public final class RandomRunsTest {
    private static final int HOUSES = 300;
    private static final int CALLS = 512;
    private static final char[] LETTERS = "hyswbrl-lcgbkdmczpstadq".toCharArray();
    private static final int[] EDGES = {
        -1, 0, 1, 2, 3, 9, 10, 15, 30, 60, 99, 100, 500, 560, 565, 570, 620,
        Integer.MIN_VALUE, Integer.MAX_VALUE, 1 << 30,
    };

    private static int wrong;

    public static void main(String[] args) throws IllegalAccessException {
        List<Method> face = new ArrayList<>();
        for (Method method : Wighall.class.getDeclaredMethods()) {
            if (java.lang.reflect.Modifier.isPublic(method.getModifiers())) {
                face.add(method);
            }
        }
        face.sort((a, b) -> a.getName().compareTo(b.getName()));
        for (int seed = 0; seed < HOUSES && wrong == 0; seed++) {
            run(face, new Random(seed), seed % 10 == 0);
        }
        System.out.println(HOUSES + " houses of " + CALLS + " calls, " + wrong + " wrong");
        if (wrong != 0) {
            System.exit(1);
        }
    }

    private static void run(List<Method> face, Random random, boolean looksClosely) throws IllegalAccessException {
        Wighall house = new Wighall();
        Wighall twin = new Wighall();
        furnish(house);
        furnish(twin);
        StringBuilder calls = new StringBuilder();
        for (int i = 0; i < CALLS && wrong == 0; i++) {
            Method method = face.get(random.nextInt(face.size()));
            Object[] values = values(method, random);
            calls.append(method.getName()).append(Arrays.toString(values)).append('\n');
            String before = looksClosely ? HouseView.of(house) : "";
            String answer = answer(house, method, values);
            if (!answer.equals(answer(twin, method, values))) {
                wrong("two houses answer differently", calls);
            }
            if (looksClosely && answer.startsWith("throws") && !before.equals(HouseView.of(house))) {
                wrong("a refused call changed something", calls);
            }
            if (!house.isSound()) {
                wrong("the house is not sound", calls);
            }
        }
    }

    /** Something to work with, so that runs come deep at once. */
    private static void furnish(Wighall house) {
        for (int i = 0; i < 4; i++) {
            house.bundle("hsyh".charAt(i), 20 + 4 * i, 20 * i, 400);
            house.piece(i < 2 ? 'w' : 'b', 555 + 5 * i);
            house.person(555 + 5 * i, 3 * i, i);
            house.scene(10 + 10 * i, i % 2);
        }
    }

    private static Object[] values(Method method, Random random) {
        Class<?>[] types = method.getParameterTypes();
        Object[] values = new Object[types.length];
        for (int i = 0; i < types.length; i++) {
            if (types[i] == char.class) {
                values[i] = LETTERS[random.nextInt(LETTERS.length)];
            } else if (random.nextInt(12) == 0) {
                values[i] = EDGES[random.nextInt(EDGES.length)];
            } else {
                values[i] = number(method.getName(), i, random);
            }
        }
        return values;
    }

    private static int number(String method, int at, Random random) {
        boolean isSize = (method.equals("piece") && at == 1) || (method.equals("person") && at == 0);
        boolean isHair = method.equals("bundle") || (method.equals("mix") && at > 1);
        if (isSize) {
            return 550 + random.nextInt(25);
        }
        if (isHair || method.equals("scene") && at == 0) {
            return 1 + random.nextInt(60);
        }
        return random.nextInt(8) - 1;
    }

    private static String answer(Wighall house, Method method, Object[] values) throws IllegalAccessException {
        try {
            return String.valueOf(method.invoke(house, values));
        } catch (InvocationTargetException e) {
            Throwable thrown = e.getCause();
            boolean isTold = Arrays.asList(method.getExceptionTypes()).contains(thrown.getClass());
            StackTraceElement[] trace = thrown.getStackTrace();
            boolean isOwn = trace.length == 0 || (trace[0].getClassName() + "$").startsWith("Wighall$");
            if (!isTold || !isOwn) {
                thrown.printStackTrace(System.out);
                wrong(method.getName() + Arrays.toString(values) + " threw " + thrown, new StringBuilder());
            }
            return "throws " + thrown.getClass().getSimpleName();
        }
    }

    private static void wrong(String what, StringBuilder calls) {
        wrong++;
        System.out.println(calls);
        System.out.println(what);
    }
}
