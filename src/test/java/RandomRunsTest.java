import java.lang.reflect.InvocationTargetException;
import java.lang.reflect.Method;
import java.util.ArrayList;
import java.util.Arrays;
import java.util.HashMap;
import java.util.List;
import java.util.Map;
import java.util.Random;

/**
 * Long runs of any calls, the same ones each time: each answer, and each exception, is that of PlainHouse and of a
 * second house; an exception is thrown by the class itself; a refused call changes nothing; the house stays sound.
 */
public final class RandomRunsTest {
    private static final int HOUSES = 280;
    private static final int CALLS = 512;

    /** The calls, and what they are mostly given: a number of something, one of a range, or one of some letters. */
    private static final String[] FACE = {
        "bundle hhyys 20..30 0..99 1..60", "mix #bundle #bundle 1..20 1..20", "bleach #bundle", "hair #bundle lcgb",
        "piece wwb 550..572", "crown #piece 0..5 0..5", "turn #piece 0..5 0..5 rl-", "flow #piece 0..5 0..5",
        "knot #piece 0..5 0..5 #bundle 1..9", "unknot #piece 0..5 0..5", "cut #piece 0..5 0..5 1..60",
        "place #piece 0..5 0..5 kcldb", "of #piece kmscz", "isFull #piece", "isEven #piece", "set #piece",
        "person 550..572 0..9 0..15", "tryGlue #person 0..3", "barred #person", "fits #piece #person",
        "look #person #some #some 0..3 0..5 0..3", "seconds #look #look", "scene 1..12 0..1", "enter #scene #look",
        "exit #scene #person", "dresser 0..1", "changes", "change #change pstabd", "late", "show", "lacks",
        "lack #lack sp", "lackSort #lack", "shoot #look", "mistakes", "box wb", "store #box 0..3 #piece",
        "unbox #piece", "hire #piece 1..30", "back #piece", "days 1..60", "money", "checksum", "fullShare #piece",
        "meanLength #piece", "isSound",
    };

    /** Those that change nothing: all of them are asked as a run ends. */
    private static final String ASKING = " hair flow place of isFull isEven barred fits seconds changes change late "
            + "lacks lack lackSort mistakes money checksum fullShare meanLength isSound ";

    /** Each run has some calls more often than the others. */
    private static final String[] FAVOURED = {
        "",
        "bundle mix mix bleach hair knot unknot piece",
        "knot knot knot knot unknot cut turn crown flow place of isFull isEven meanLength fullShare",
        "look look look scene enter enter enter enter exit dresser seconds changes change change late",
        "look look scene enter enter enter knot set set show show lacks lack lackSort of barred tryGlue exit unknot",
        "shoot shoot look look knot unknot mistakes checksum",
        "box store store unbox unbox hire back back days money show look enter scene knot unknot cut set",
    };

    private static final Map<String, Method> HOUSE = new HashMap<>();
    private static final Map<String, Method> PLAIN = new HashMap<>();

    private static int calls;
    private static int answered;
    private static int wrong;

    public static void main(String[] args) throws IllegalAccessException {
        for (Method method : Wighall.class.getDeclaredMethods()) {
            HOUSE.put(method.getName(), method);
        }
        for (Method method : PlainHouse.class.getDeclaredMethods()) {
            if (java.lang.reflect.Modifier.isPublic(method.getModifiers())) {
                PLAIN.put(method.getName(), method);
            }
        }
        for (int seed = 0; seed < HOUSES && wrong == 0; seed++) {
            new RandomRunsTest(seed).run();
        }
        System.out.println(HOUSES + " houses, " + calls + " calls, " + answered + " answered, " + wrong + " wrong");
        if (wrong != 0) {
            System.exit(1);
        }
    }

    private final Random random;
    private final String[] favoured;
    private final boolean looksClosely;
    private final Wighall house = new Wighall();
    private final Wighall twin = new Wighall();
    private final PlainHouse plain = new PlainHouse();
    private final Map<String, Integer> counts = new HashMap<>();
    private final StringBuilder told = new StringBuilder();

    private RandomRunsTest(int seed) {
        random = new Random(seed);
        favoured = FAVOURED[seed % FAVOURED.length].split(" ");
        looksClosely = seed % 25 == 0;
    }

    private void run() throws IllegalAccessException {
        if (random.nextInt(8) != 0) {
            furnish();
        }
        while (counts.getOrDefault("calls", 0) < CALLS && wrong == 0) {
            String[] line = FACE[random.nextInt(FACE.length)].split(" ");
            if (random.nextInt(4) != 0 && !favoured[0].isEmpty()) {
                line = lineOf(favoured[random.nextInt(favoured.length)]);
            }
            Object[] values = new Object[line.length - 1];
            for (int i = 0; i < values.length; i++) {
                values[i] = value(line[i + 1]);
            }
            call(line[0], values);
        }
        for (String line : FACE) {
            String[] words = line.split(" ");
            if (ASKING.contains(" " + words[0] + " ") && wrong == 0) {
                askAll(words, new Object[words.length - 1], 0);
            }
        }
    }

    /** Something to work with, so that runs come deep at once. */
    private void furnish() throws IllegalAccessException {
        for (int i = 0; i < 4; i++) {
            call("bundle", "hsyh".charAt(i), 20 + 4 * i, 20 * i, 400);
            call("piece", i < 2 ? 'w' : 'b', 555 + 5 * i);
            call("person", 555 + 5 * i, 3 * i, i);
            call("scene", 10 + 10 * i, i % 2);
            call("look", i, i < 3 ? i % 2 : -1, i % 2 == 0 ? -1 : 3, 0, i, 0);
            call("enter", i, i);
        }
    }

    private static String[] lineOf(String name) {
        for (String line : FACE) {
            if (line.startsWith(name + " ") || line.equals(name)) {
                return line.split(" ");
            }
        }
        throw new IllegalStateException(name);
    }

    // ---- what is given to a call

    private Object value(String word) {
        if (word.startsWith("#")) {
            return number(word);
        }
        if (!word.contains("..")) {
            return random.nextInt(24) == 0 ? (char) random.nextInt(400) : word.charAt(random.nextInt(word.length()));
        }
        int least = Integer.parseInt(word.substring(0, word.indexOf("..")));
        int most = Integer.parseInt(word.substring(word.indexOf("..") + 2));
        if (random.nextInt(24) == 0) {
            int[] edges = {least - 1, least, most, most + 1, -1, Integer.MIN_VALUE, Integer.MAX_VALUE, 1 << 30};
            return edges[random.nextInt(edges.length)];
        }
        return least + random.nextInt(most - least + 1);
    }

    private int number(String word) {
        if (word.equals("#some") && random.nextInt(3) == 0) {
            return -1;
        }
        int count = count(word);
        if (count == 0 || random.nextInt(24) == 0) {
            int[] edges = {-2, -1, 0, count - 1, count, Integer.MIN_VALUE, Integer.MAX_VALUE, 1 << 30};
            return edges[random.nextInt(edges.length)];
        }
        return random.nextInt(count);
    }

    private int count(String word) {
        switch (word) {
            case "#some":
                return counts.getOrDefault("piece", 0);
            case "#change":
                return plain.changes();
            case "#lack":
                return plain.lacks();
            default:
                return counts.getOrDefault(word.substring(1), 0);
        }
    }

    // ---- calls

    private void askAll(String[] words, Object[] values, int at) throws IllegalAccessException {
        if (at == values.length) {
            call(words[0], values.clone());
            return;
        }
        String word = words[at + 1];
        if (!word.contains("..") && !word.startsWith("#")) {
            for (char letter : word.toCharArray()) {
                values[at] = letter;
                askAll(words, values, at + 1);
            }
            return;
        }
        int count = word.startsWith("#") ? count(word) : 6;
        for (int i = 0; i < count; i++) {
            values[at] = i;
            askAll(words, values, at + 1);
        }
    }

    private void call(String name, Object... values) throws IllegalAccessException {
        boolean isRun = counts.merge("calls", 1, Integer::sum) <= CALLS;
        if (isRun) {
            told.append(name).append(Arrays.toString(values)).append('\n');
        }
        calls++;
        String before = looksClosely && isRun ? HouseView.of(house) : "";
        String answer = answer(house, HOUSE.get(name), values);
        String due = answer(plain, PLAIN.get(name), values);
        if (!answer.equals(due)) {
            wrong(name + Arrays.toString(values) + " answered " + answer + ", due is " + due);
        }
        if (!answer.equals(answer(twin, HOUSE.get(name), values))) {
            wrong(name + Arrays.toString(values) + ": two houses answer differently");
        }
        if (looksClosely && isRun && answer.startsWith("throws") && !before.equals(HouseView.of(house))) {
            wrong(name + Arrays.toString(values) + " was refused, and changed something");
        }
        if (isRun && !house.isSound()) {
            wrong("the house is not sound behind " + name + Arrays.toString(values));
        }
        if (!answer.startsWith("throws")) {
            answered++;
            counts.merge(name.equals("mix") ? "bundle" : name, 1, Integer::sum);
        }
    }

    private String answer(Object asked, Method method, Object[] values) throws IllegalAccessException {
        try {
            return String.valueOf(method.invoke(asked, values));
        } catch (InvocationTargetException e) {
            Throwable thrown = e.getCause();
            StackTraceElement[] trace = thrown.getStackTrace();
            boolean isOwn = trace.length > 0 && (trace[0].getClassName() + "$").startsWith("Wighall$");
            boolean isTold = Arrays.asList(method.getExceptionTypes()).contains(thrown.getClass());
            if (asked instanceof Wighall && (!isOwn || !isTold)) {
                wrong(method.getName() + Arrays.toString(values) + " is broken off by " + thrown);
            }
            return "throws " + thrown.getClass().getSimpleName();
        }
    }

    private void wrong(String what) {
        wrong++;
        System.out.println(told);
        System.out.println(what);
    }
}
