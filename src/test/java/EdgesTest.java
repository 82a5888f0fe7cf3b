import java.io.IOException;
import java.lang.reflect.InvocationTargetException;
import java.lang.reflect.Method;
import java.nio.file.Files;
import java.nio.file.Path;
import java.util.ArrayList;
import java.util.HashMap;
import java.util.List;
import java.util.Map;
import java.util.TreeSet;

/**
 * Runs the tests that are written in src/test/edges, each for one sentence of the document that names a boundary
 * case, on a house of its own. README.md tells how they are written.
 */
public final class EdgesTest {
    private static final int PROMISES = 47;
    private static final Map<String, Method> FACE = new HashMap<>();
    private static final Map<String, List<String>> BLOCKS = new HashMap<>();

    private static int tests;
    private static int calls;
    private static int refusals;
    private static int wrong;

    /** What is wrong in how a test is written. */
    private static final class Unreadable extends RuntimeException {
        private static final long serialVersionUID = 1;

        Unreadable(String what) {
            super(what);
        }
    }

    private static final class Sentence {
        final String title;
        final String file;
        final List<String> lines = new ArrayList<>();

        Sentence(String title, String file) {
            this.title = title;
            this.file = file;
        }
    }

    /** A call with the values that it is given. */
    private static final class Call {
        final Method method;
        final Object[] values;

        Call(Method method, Object[] values) {
            this.method = method;
            this.values = values;
        }

        /** Its answer, or "throws" and the exception's name; an exception that the class did not throw is told. */
        String answer(Wighall house) {
            try {
                return shown(method.invoke(house, values));
            } catch (InvocationTargetException e) {
                Throwable thrown = e.getCause();
                StackTraceElement[] trace = thrown.getStackTrace();
                // The machine leaves the trace out of what it throws itself again and again.
                boolean isOwn = trace.length > 0 && (trace[0].getClassName() + "$").startsWith("Wighall$");
                return (isOwn ? "throws " : "is broken off by ") + thrown.getClass().getSimpleName();
            } catch (IllegalAccessException e) {
                throw new Unreadable("cannot be called");
            }
        }

        @Override
        public String toString() {
            StringBuilder text = new StringBuilder(method.getName()).append('(');
            for (int i = 0; i < values.length; i++) {
                text.append(i == 0 ? "" : ", ").append(shown(values[i]));
            }
            return text.append(')').toString();
        }

        private static String shown(Object value) {
            boolean isHidden = value instanceof Character && ((char) value <= ' ' || (char) value > '~');
            return isHidden ? "\\" + (int) (char) value : String.valueOf(value);
        }
    }

    public static void main(String[] args) throws IOException {
        for (Method method : Wighall.class.getMethods()) {
            if (method.getDeclaringClass() == Wighall.class) {
                FACE.put(method.getName(), method);
            }
        }
        TreeSet<Path> files = new TreeSet<>();
        try (java.nio.file.DirectoryStream<Path> found = Files.newDirectoryStream(Path.of("src/test/edges"), "*.txt")) {
            found.forEach(files::add);
        }
        List<Sentence> sentences = new ArrayList<>();
        for (Path file : files) {
            read(file.getFileName().toString(), Files.readAllLines(file), sentences);
        }
        readReadme(sentences);
        for (Sentence sentence : sentences) {
            run(sentence);
        }
        lookForPromises(sentences);
        System.out.println(tests + " tests, " + calls + " calls, " + refusals + " refused, " + wrong + " wrong");
        if (wrong != 0) {
            System.exit(1);
        }
    }

    /** The issue wants a test for each promise: a file that is lost is to be seen. */
    private static void lookForPromises(List<Sentence> sentences) {
        for (int promise = 1; promise <= PROMISES; promise++) {
            String number = promise + " ";
            if (sentences.stream().noneMatch(sentence -> sentence.title.startsWith(number))) {
                wrong++;
                System.out.println("promise " + promise + " has no test");
            }
        }
        TreeSet<String> titles = new TreeSet<>();
        for (Sentence sentence : sentences) {
            if (!titles.add(sentence.title)) {
                wrong++;
                System.out.println("told twice: " + sentence.title);
            }
        }
    }

    // ---- reading

    /** README.md shows how such tests are written: what it shows is to hold too. */
    private static void readReadme(List<Sentence> sentences) throws IOException {
        int before = sentences.size();
        List<String> block = null;
        for (String line : Files.readAllLines(Path.of("README.md"))) {
            if (line.startsWith("```") && block != null) {
                if (!block.isEmpty() && block.get(0).startsWith("== ")) {
                    read("a test shown in README.md", block, sentences);
                }
                block = null;
            } else if (line.startsWith("```")) {
                block = new ArrayList<>();
            } else if (block != null) {
                block.add(line);
            }
        }
        if (sentences.size() == before) {
            wrong++;
            System.out.println("README.md shows no test");
        }
    }

    private static void read(String file, List<String> written, List<Sentence> sentences) {
        List<String> lines = null;
        int number = 0;
        for (String raw : written) {
            number++;
            String line = raw.trim();
            if (line.isEmpty() || line.startsWith("//")) {
                continue;
            }
            if (line.startsWith("== ")) {
                Sentence sentence = new Sentence(line.substring(3), file + ":" + number);
                sentences.add(sentence);
                lines = sentence.lines;
            } else if (line.startsWith(":: ")) {
                lines = new ArrayList<>();
                BLOCKS.put(line.substring(3), lines);
            } else if (lines == null) {
                throw new Unreadable(file + ":" + number + ": a call outside a test");
            } else {
                lines.add(line);
            }
        }
    }

    // ---- running

    private static void run(Sentence sentence) {
        tests++;
        Wighall house = new Wighall();
        List<Call> taken = new ArrayList<>();
        int before = calls;
        try {
            for (String line : sentence.lines) {
                runLine(sentence, house, taken, line);
            }
            if (calls == before) {
                throw new Unreadable("no calls");
            }
        } catch (Unreadable e) {
            tell(sentence, "cannot be read: " + e.getMessage());
        }
    }

    private static void tell(Sentence sentence, String what) {
        wrong++;
        System.out.println(sentence.file + " \"" + sentence.title + "\": " + what);
    }

    private static void runLine(Sentence sentence, Wighall house, List<Call> taken, String line) {
        if (line.startsWith("+ ")) {
            List<String> block = BLOCKS.get(line.substring(2));
            if (block == null) {
                throw new Unreadable(line);
            }
            for (String inside : block) {
                runLine(sentence, house, taken, inside);
            }
            return;
        }
        int sign = Math.max(line.indexOf(" = "), line.indexOf(" ! "));
        String told = sign < 0 ? line : line.substring(0, sign);
        String[] due = sign < 0 ? new String[0] : line.substring(sign + 3).trim().split(" +");
        if (told.equals("lackrow") || told.equals("changerow")) {
            runRow(sentence, house, told, String.join(" ", due));
            return;
        }
        List<Call> row = callsOf(told);
        boolean isRefused = line.indexOf(" ! ") >= 0;
        for (int i = 0; i < row.size(); i++) {
            String want = due.length == 0 ? "" : isRefused ? "throws " + due[0] + "Exception"
                    : wanted(row.get(i), due, i, row.size());
            runCall(sentence, house, row.get(i), want);
        }
        if (isRefused) {
            refusals += row.size();
            lookForChanges(sentence, taken, row);
        } else {
            taken.addAll(row);
        }
    }

    private static void runRow(Sentence sentence, Wighall house, String told, String due) {
        calls++;
        String got = told.equals("lackrow") ? HouseView.lackRow(house) : HouseView.changeRow(house);
        if (!got.equals(due)) {
            tell(sentence, told + " is " + got + ", due is " + due);
        }
    }

    private static void runCall(Sentence sentence, Wighall house, Call call, String want) {
        calls++;
        String got = call.answer(house);
        boolean isAnswer = !got.startsWith("throws ") && !got.startsWith("is broken");
        boolean isRight = want.isEmpty() ? isAnswer : got.equals(want);
        if (!isRight) {
            tell(sentence, call + " answered " + got + ", due is " + (want.isEmpty() ? "any answer" : want));
        }
    }

    /** Two houses get the same calls, one of them also those that are refused: they have to be alike in all. */
    private static void lookForChanges(Sentence sentence, List<Call> taken, List<Call> refused) {
        Wighall without = played(taken);
        Wighall with = played(taken);
        for (Call call : refused) {
            call.answer(with);
        }
        if (!HouseView.takenApart(without).equals(HouseView.takenApart(with))) {
            tell(sentence, refused.get(0) + (refused.size() > 1 ? " and so on" : "") + " changed something");
        }
    }

    private static Wighall played(List<Call> calls) {
        Wighall house = new Wighall();
        for (Call call : calls) {
            call.answer(house);
        }
        return house;
    }

    // ---- what is told by a line

    private static String wanted(Call call, String[] due, int at, int of) {
        if (due.length != 1 && due.length != of) {
            throw new Unreadable(call + " has " + of + " answers, " + due.length + " are told");
        }
        String one = due.length == 1 ? due[0] : due[at];
        Class<?> type = call.method.getReturnType();
        if (one.equals("#")) {
            return String.valueOf(at);
        }
        if (type == float.class || type == double.class) {
            String[] parts = one.split("/");
            String below = parts.length > 1 ? parts[1] : "1";
            return type == float.class ? String.valueOf(Float.parseFloat(parts[0]) / Float.parseFloat(below))
                    : String.valueOf(Double.parseDouble(parts[0]) / Double.parseDouble(below));
        }
        return one;
    }

    /** All calls of a line: one for each of the values that are told, the last ones going on first. */
    private static List<Call> callsOf(String told) {
        String[] words = told.trim().split(" +");
        int times = 1;
        int first = 0;
        if (words[0].matches("\\d+x")) {
            times = Integer.parseInt(words[0].substring(0, words[0].length() - 1));
            first = 1;
        }
        Method method = FACE.get(words[first]);
        if (method == null || method.getParameterCount() != words.length - first - 1) {
            throw new Unreadable(told);
        }
        List<Object[]> rows = new ArrayList<>();
        rows.add(new Object[method.getParameterCount()]);
        for (int i = 0; i < method.getParameterCount(); i++) {
            boolean isChar = method.getParameterTypes()[i] == char.class;
            List<Object> values = isChar ? chars(words[first + 1 + i]) : numbers(words[first + 1 + i]);
            rows = multiplied(rows, i, values);
        }
        List<Call> row = new ArrayList<>();
        for (int i = 0; i < times; i++) {
            for (Object[] values : rows) {
                row.add(new Call(method, values));
            }
        }
        return row;
    }

    private static List<Object[]> multiplied(List<Object[]> rows, int at, List<Object> values) {
        List<Object[]> more = new ArrayList<>();
        for (Object[] row : rows) {
            for (Object value : values) {
                Object[] longer = row.clone();
                longer[at] = value;
                more.add(longer);
            }
        }
        return more;
    }

    private static List<Object> numbers(String word) {
        List<Object> values = new ArrayList<>();
        for (String part : word.split(",")) {
            String[] ends = part.split("\\.\\.");
            int least = number(ends[0]);
            int most = number(ends[ends.length - 1]);
            for (long value = least; value <= most; value++) {
                values.add((int) value);
            }
        }
        return values;
    }

    private static int number(String word) {
        if (word.equals("min")) {
            return Integer.MIN_VALUE;
        }
        if (word.equals("max")) {
            return Integer.MAX_VALUE;
        }
        try {
            return Integer.parseInt(word);
        } catch (NumberFormatException e) {
            throw new Unreadable(word);
        }
    }

    /** A row of characters by commas, or, behind ^, all but those that are told. */
    private static List<Object> chars(String word) {
        List<Object> values = new ArrayList<>();
        if (word.length() > 1 && word.charAt(0) == '^') {
            for (char value = 0; value < 1024; value++) {
                if (word.indexOf(value, 1) < 0) {
                    values.add(value);
                }
            }
            values.add((char) 65535);
            return values;
        }
        for (String part : word.split(",")) {
            if (part.length() != 1) {
                throw new Unreadable(word);
            }
            values.add(part.charAt(0));
        }
        return values;
    }
}
