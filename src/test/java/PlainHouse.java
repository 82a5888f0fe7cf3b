import java.util.ArrayList;
import java.util.Arrays;
import java.util.List;
import java.util.NoSuchElementException;
import java.util.TreeMap;
import java.util.TreeSet;

/**
 * The document once more, in the plainest form: each knot, each minute of a scene and each second of a dresser stand
 * for themselves. RandomRunsTest holds Wighall against it.
 */
public final class PlainHouse {
    private static final class Bundle {
        char origin;
        int length;
        int colour;
        int grams;
        int bleached;
    }

    private static final class Knot {
        int length;
        int colour;
        boolean made;
        int bundle;
    }

    private static final class Place {
        final List<Knot> knots = new ArrayList<>();
        int eighths;
        int lies;
    }

    private static final class Piece {
        boolean head;
        int size;
        final Place[][] places = new Place[6][6];
        int crownX = 2;
        int crownY = 3;
        int minutes;
        int set;
        int box = -1;
        int slot = -1;
        int outFrom = -1;
        int outDays;

        boolean away() {
            return box >= 0 || outFrom >= 0;
        }

        List<Place> open() {
            List<Place> open = new ArrayList<>();
            for (int y = 0; y < (head ? 6 : 2); y++) {
                open.addAll(Arrays.asList(places[y]));
            }
            return open;
        }

        List<Knot> knots() {
            List<Knot> all = new ArrayList<>();
            for (Place place : open()) {
                all.addAll(place.knots);
            }
            return all;
        }

        int colour() {
            List<Integer> colours = new ArrayList<>();
            for (Place place : open()) {
                if (!place.knots.isEmpty()) {
                    colours.add(place.knots.stream().mapToInt(knot -> knot.colour).sum() / place.knots.size());
                }
            }
            return colours.isEmpty() ? -1 : colours.stream().mapToInt(colour -> colour).sum() / colours.size();
        }
    }

    private static final class Person {
        int measure;
        int sweat;
        final TreeSet<Integer> unborne = new TreeSet<>();
        final TreeSet<Integer> known = new TreeSet<>();
    }

    private static final class Look {
        int person;
        int head;
        int beard;
        int glue;
        int layers;
        int day;
    }

    private static final class Scene {
        int minutes;
        int wing;
        final TreeMap<Integer, Integer> lookOf = new TreeMap<>();
    }

    private final List<Bundle> bundles = new ArrayList<>();
    private final List<Piece> pieces = new ArrayList<>();
    private final List<Person> people = new ArrayList<>();
    private final List<Look> looks = new ArrayList<>();
    private final List<Scene> scenes = new ArrayList<>();
    private final List<Integer> dressers = new ArrayList<>();
    private final List<Character> boxes = new ArrayList<>();
    private final List<Object[]> lacks = new ArrayList<>();
    private final TreeMap<String, String> book = new TreeMap<>();
    private int mistakes;
    private int day;
    private int money;

    // ---- what is refused

    private static void index(boolean isThere) {
        if (!isThere) {
            throw new IndexOutOfBoundsException();
        }
    }

    private static void argument(boolean isRight) {
        if (!isRight) {
            throw new IllegalArgumentException();
        }
    }

    private static void supported(boolean isRight) {
        if (!isRight) {
            throw new UnsupportedOperationException();
        }
    }

    private static void state(boolean isRight) {
        if (!isRight) {
            throw new IllegalStateException();
        }
    }

    private static boolean in(int number, int least, int most) {
        return least <= number && number <= most;
    }

    private static <T> boolean has(List<T> list, int number) {
        return in(number, 0, list.size() - 1);
    }

    private Place at(int piece, int x, int y) {
        index(has(pieces, piece));
        argument(in(x, 0, 5) && in(y, 0, 5));
        return pieces.get(piece).places[y][x];
    }

    // ---- hair

    public int bundle(char origin, int length, int colour, int grams) {
        argument("hys".indexOf(origin) >= 0);
        argument(in(length, 5, 60) && in(colour, 0, 99) && in(grams, 1, 500));
        state(bundles.size() < 20);
        return add(origin, length, colour, grams, 0);
    }

    private int add(char origin, int length, int colour, int grams, int bleached) {
        Bundle bundle = new Bundle();
        bundle.origin = origin;
        bundle.length = length;
        bundle.colour = colour;
        bundle.grams = grams;
        bundle.bleached = bleached;
        bundles.add(bundle);
        return bundles.size() - 1;
    }

    public int mix(int one, int other, int grams, int more) {
        index(has(bundles, one) && has(bundles, other));
        argument(one != other && grams >= 1 && more >= 1 && (long) grams + more <= 500);
        Bundle first = bundles.get(one);
        Bundle second = bundles.get(other);
        supported(first.origin == second.origin && Math.abs(first.length - second.length) <= 5);
        supported(first.grams >= grams && second.grams >= more);
        state(bundles.size() < 20);
        int sum = 0;
        for (int i = 0; i < grams; i++) {
            first.grams--;
            sum += first.colour;
        }
        for (int i = 0; i < more; i++) {
            second.grams--;
            sum += second.colour;
        }
        return add(first.origin, first.length < second.length ? first.length : second.length, sum / (grams + more),
                grams + more, first.bleached > second.bleached ? first.bleached : second.bleached);
    }

    public int bleach(int bundle) {
        index(has(bundles, bundle));
        Bundle one = bundles.get(bundle);
        supported(one.origin != 's' && one.bleached < 2);
        one.bleached++;
        for (int i = 0; i < 20 && one.colour < 99; i++) {
            one.colour++;
        }
        return one.colour;
    }

    public int hair(int bundle, char what) {
        index(has(bundles, bundle));
        argument("lcgb".indexOf(what) >= 0);
        Bundle one = bundles.get(bundle);
        return what == 'l' ? one.length : what == 'c' ? one.colour : what == 'g' ? one.grams : one.bleached;
    }

    // ---- pieces

    public int piece(char sort, int size) {
        argument(sort == 'b' || sort == 'w' && in(size, 500, 620));
        state(pieces.size() < 12);
        Piece piece = new Piece();
        piece.head = sort == 'w';
        piece.size = sort == 'w' ? size : 0;
        for (Place[] row : piece.places) {
            for (int x = 0; x < 6; x++) {
                row[x] = new Place();
            }
        }
        pieces.add(piece);
        return pieces.size() - 1;
    }

    public int crown(int piece, int x, int y) {
        at(piece, x, y);
        Piece one = pieces.get(piece);
        int before = 6 * one.crownY + one.crownX;
        one.crownX = x;
        one.crownY = y;
        return before;
    }

    public char turn(int piece, int x, int y, char turn) {
        Place place = at(piece, x, y);
        argument("l-r".indexOf(turn) >= 0);
        supported(place.knots.isEmpty());
        char before = "l-r".charAt(place.eighths + 1);
        place.eighths = "l-r".indexOf(turn) - 1;
        return before;
    }

    public int flow(int piece, int x, int y) {
        Place place = at(piece, x, y);
        int right = x - pieces.get(piece).crownX;
        int front = pieces.get(piece).crownY - y;
        int away;
        if (right == 0 && front == 0) {
            away = 4;
        } else if (Math.abs(right) > 2 * Math.abs(front)) {
            away = right > 0 ? 2 : 6;
        } else if (Math.abs(front) > 2 * Math.abs(right)) {
            away = front > 0 ? 0 : 4;
        } else if (right > 0) {
            away = front > 0 ? 1 : 3;
        } else {
            away = front > 0 ? 7 : 5;
        }
        return (away + 8 + place.eighths) % 8;
    }

    public int knot(int piece, int x, int y, int bundle, int many) {
        index(has(pieces, piece) && has(bundles, bundle));
        Place place = at(piece, x, y);
        argument(in(many, 1, 9));
        Piece one = pieces.get(piece);
        Bundle from = bundles.get(bundle);
        supported(!one.away());
        supported(one.head || y < 2);
        supported(place.knots.size() + many <= (one.head && y == 0 ? 3 : 9));
        TreeSet<Integer> hair = new TreeSet<>();
        hair.add(bundle);
        for (Knot knot : place.knots) {
            hair.add(knot.bundle);
        }
        supported(hair.size() <= 3);
        supported(from.grams >= 1);
        from.grams--;
        for (int i = 0; i < many; i++) {
            if (place.knots.isEmpty()) {
                place.lies = flow(piece, x, y);
            }
            Knot knot = new Knot();
            knot.length = from.length;
            knot.colour = from.colour;
            knot.made = from.origin == 's';
            knot.bundle = bundle;
            place.knots.add(knot);
            one.minutes += y == 0 ? 2 : 1;
        }
        return place.knots.size();
    }

    public int unknot(int piece, int x, int y) {
        Place place = at(piece, x, y);
        supported(!pieces.get(piece).away() && !place.knots.isEmpty());
        int many = place.knots.size();
        place.knots.clear();
        return many;
    }

    public int cut(int piece, int x, int y, int length) {
        Place place = at(piece, x, y);
        argument(in(length, 1, 60));
        supported(!pieces.get(piece).away() && !place.knots.isEmpty());
        int before = place(piece, x, y, 'l');
        for (Knot knot : place.knots) {
            if (knot.length > length) {
                knot.length = length;
            }
        }
        return before;
    }

    public int place(int piece, int x, int y, char what) {
        Place place = at(piece, x, y);
        argument("kcldb".indexOf(what) >= 0);
        if (place.knots.isEmpty()) {
            throw new NoSuchElementException();
        }
        switch (what) {
            case 'k':
                return place.knots.size();
            case 'c':
                return place.knots.stream().mapToInt(knot -> knot.colour).sum() / place.knots.size();
            case 'l':
                return place.knots.stream().mapToInt(knot -> knot.length).min().getAsInt();
            case 'd':
                return place.lies;
            default:
                return (int) place.knots.stream().mapToInt(knot -> knot.bundle).distinct().count();
        }
    }

    public int of(int piece, char what) {
        index(has(pieces, piece));
        argument("kmscz".indexOf(what) >= 0);
        Piece one = pieces.get(piece);
        return new int[] {one.knots().size(), one.minutes, one.set, one.colour(), one.size}["kmscz".indexOf(what)];
    }

    public boolean isFull(int piece) {
        index(has(pieces, piece));
        return pieces.get(piece).open().stream().noneMatch(place -> place.knots.isEmpty());
    }

    public boolean isEven(int piece) {
        index(has(pieces, piece));
        List<Place> open = pieces.get(piece).open();
        for (int i = 0; i < open.size(); i++) {
            for (int k = 0; k < open.size(); k++) {
                boolean isBeside = Math.abs(i % 6 - k % 6) + Math.abs(i / 6 - k / 6) == 1;
                if (isBeside && open.get(i).knots.size() - open.get(k).knots.size() > 3) {
                    return false;
                }
            }
        }
        return true;
    }

    public int set(int piece) {
        index(has(pieces, piece));
        Piece one = pieces.get(piece);
        supported(one.head && !one.away() && !one.knots().isEmpty());
        int before = one.set;
        one.set = 100;
        return before;
    }

    // ---- people and looks

    public int person(int measure, int sweat, int glues) {
        argument(in(measure, 500, 620) && in(sweat, 0, 9) && in(glues, 0, 15));
        state(people.size() < 10);
        Person person = new Person();
        person.measure = measure;
        person.sweat = sweat;
        for (int glue = 0, bit = 1; glue < 4; glue++, bit *= 2) {
            if (glues / bit % 2 == 1) {
                person.unborne.add(glue);
            }
        }
        people.add(person);
        return people.size() - 1;
    }

    public boolean tryGlue(int person, int glue) {
        index(has(people, person));
        argument(in(glue, 0, 3));
        Person one = people.get(person);
        supported(!one.known.contains(glue));
        if (one.unborne.contains(glue)) {
            one.known.add(glue);
            return false;
        }
        return true;
    }

    public int barred(int person) {
        index(has(people, person));
        return people.get(person).known.stream().mapToInt(glue -> (int) Math.pow(2, glue)).sum();
    }

    public boolean fits(int piece, int person) {
        index(has(pieces, piece) && has(people, person));
        int size = pieces.get(piece).size;
        int measure = people.get(person).measure;
        return !pieces.get(piece).head || in(size, measure - 10, measure + 10);
    }

    public int look(int person, int head, int beard, int glue, int layers, int day) {
        index(has(people, person) && (head == -1 || has(pieces, head)) && (beard == -1 || has(pieces, beard)));
        argument((beard == -1 || in(glue, 0, 3)) && in(layers, 0, 5) && in(day, 0, 99));
        if (head != -1) {
            supported(pieces.get(head).head && !pieces.get(head).away() && fits(head, person));
        }
        if (beard != -1) {
            supported(!pieces.get(beard).head && !pieces.get(beard).away());
            supported(!people.get(person).known.contains(glue));
        }
        state(looks.size() < 24);
        Look look = new Look();
        look.person = person;
        look.head = head;
        look.beard = beard;
        look.glue = glue;
        look.layers = layers;
        look.day = day;
        looks.add(look);
        return looks.size() - 1;
    }

    private static boolean isBeardAlike(Look one, Look other) {
        return one.beard == other.beard && (one.beard == -1 || one.glue == other.glue);
    }

    public int seconds(int look, int other) {
        index(has(looks, look) && has(looks, other));
        Look one = looks.get(look);
        Look two = looks.get(other);
        argument(one.person == two.person);
        int seconds = one.head == two.head ? 0 : 40;
        seconds += isBeardAlike(one, two) ? 0 : 60;
        for (int layer = Math.min(one.layers, two.layers); layer < Math.max(one.layers, two.layers); layer++) {
            seconds += 25;
        }
        return seconds;
    }

    // ---- the plan

    public int scene(int minutes, int wing) {
        argument(in(minutes, 1, 60) && in(wing, 0, 1));
        state(scenes.size() < 12);
        Scene scene = new Scene();
        scene.minutes = minutes;
        scene.wing = wing;
        scenes.add(scene);
        return scenes.size() - 1;
    }

    public int enter(int scene, int look) {
        index(has(scenes, scene) && has(looks, look));
        Integer before = scenes.get(scene).lookOf.put(looks.get(look).person, look);
        return before == null ? -1 : before;
    }

    public int exit(int scene, int person) {
        index(has(scenes, scene) && has(people, person));
        Integer before = scenes.get(scene).lookOf.remove(person);
        return before == null ? -1 : before;
    }

    public int dresser(int wing) {
        argument(in(wing, 0, 1));
        state(dressers.size() < 4);
        dressers.add(wing);
        return dressers.size() - 1;
    }

    /** Rows of person, seconds, time, scene ahead, scene behind, dresser. */
    private List<int[]> plan() {
        List<int[]> plan = new ArrayList<>();
        // From when to when each dresser is busy: dresser, first second, the one behind the last.
        List<int[]> busy = new ArrayList<>();
        for (int ahead = 0; ahead < scenes.size(); ahead++) {
            for (int person : scenes.get(ahead).lookOf.keySet()) {
                int behind = ahead + 1;
                while (behind < scenes.size() && !scenes.get(behind).lookOf.containsKey(person)) {
                    behind++;
                }
                if (behind < scenes.size()) {
                    int seconds = seconds(scenes.get(ahead).lookOf.get(person), scenes.get(behind).lookOf.get(person));
                    int begin = begin(ahead + 1);
                    int time = begin(behind) - begin + 20;
                    if (seconds > 0) {
                        int dresser = seconds > time ? -1 : free(busy, scenes.get(behind).wing, begin, begin + seconds);
                        plan.add(new int[] {person, seconds, time, ahead, behind, dresser});
                    }
                }
            }
        }
        return plan;
    }

    /** The second at which a scene begins. */
    private int begin(int scene) {
        return scenes.subList(0, scene).stream().mapToInt(one -> 60 * one.minutes).sum();
    }

    private int free(List<int[]> busy, int wing, int begin, int end) {
        for (int dresser = 0; dresser < dressers.size(); dresser++) {
            int number = dresser;
            boolean isFree = busy.stream().noneMatch(row -> row[0] == number && row[1] < end && begin < row[2]);
            if (dressers.get(dresser) == wing && isFree) {
                busy.add(new int[] {dresser, begin, end});
                return dresser;
            }
        }
        return -1;
    }

    public int changes() {
        return plan().size();
    }

    public int change(int change, char what) {
        List<int[]> plan = plan();
        index(has(plan, change));
        argument("pstabd".indexOf(what) >= 0);
        return plan.get(change)["pstabd".indexOf(what)];
    }

    public int late() {
        return (int) plan().stream().filter(row -> row[5] == -1).count();
    }

    // ---- the show

    public int show() {
        for (Scene scene : scenes) {
            for (int number : scene.lookOf.values()) {
                Look look = looks.get(number);
                supported(look.head == -1 || !pieces.get(look.head).away());
                supported(look.beard == -1 || !pieces.get(look.beard).away());
            }
        }
        state(!scenes.isEmpty());
        List<int[]> plan = plan();
        lacks.clear();
        // What each person had on in the last scene: the look and the minutes of its beard; none without a beard.
        TreeMap<Integer, int[]> worn = new TreeMap<>();
        for (int scene = 0; scene < scenes.size(); scene++) {
            for (int person : scenes.get(scene).lookOf.keySet()) {
                int now = scene;
                if (plan.stream().anyMatch(row -> row[0] == person && row[4] == now && row[5] == -1)) {
                    lacks.add(new Object[] {'l', scene, person});
                }
                perform(scene, person, worn);
            }
        }
        return lacks.size();
    }

    private void perform(int scene, int person, TreeMap<Integer, int[]> worn) {
        TreeMap<Integer, Integer> lookOf = scenes.get(scene).lookOf;
        Look look = looks.get(lookOf.get(person));
        TreeSet<Integer> taken = new TreeSet<>();
        for (int other : lookOf.headMap(person).values()) {
            taken.add(looks.get(other).head);
            taken.add(looks.get(other).beard);
        }
        boolean hasHead = look.head != -1 && !taken.contains(look.head);
        boolean hasBeard = look.beard != -1 && !taken.contains(look.beard);
        if (look.head != -1 && !hasHead || look.beard != -1 && !hasBeard) {
            lacks.add(new Object[] {'s', scene, person});
        }
        if (hasHead) {
            wear(pieces.get(look.head), scenes.get(scene).minutes, people.get(person).sweat);
            if (pieces.get(look.head).set < 40) {
                lacks.add(new Object[] {'d', scene, person});
            }
        }
        if (!hasBeard) {
            worn.remove(person);
            return;
        }
        int[] before = worn.get(person);
        boolean goesOn = before != null && isBeardAlike(looks.get(before[0]), look);
        int minutes = (goesOn ? before[1] : 0) + scenes.get(scene).minutes;
        worn.put(person, new int[] {lookOf.get(person), minutes});
        if (minutes > 60 - 5 * people.get(person).sweat) {
            lacks.add(new Object[] {'o', scene, person});
        }
        if (people.get(person).unborne.contains(look.glue)) {
            people.get(person).known.add(look.glue);
            lacks.add(new Object[] {'g', scene, person});
        }
    }

    private static void wear(Piece head, int minutes, int sweat) {
        int made = (int) head.knots().stream().filter(knot -> knot.made).count();
        boolean isSlow = head.knots().isEmpty() || made >= head.knots().size() - made;
        for (int minute = 1; minute <= minutes; minute++) {
            if (!isSlow || minute % 2 == 0) {
                head.set = Math.max(0, head.set - 1 - sweat / 3);
            }
        }
    }

    public int lacks() {
        return Math.min(60, lacks.size());
    }

    public int lack(int lack, char what) {
        index(in(lack, 0, lacks() - 1));
        argument(what == 's' || what == 'p');
        return (int) lacks.get(lack)[what == 's' ? 1 : 2];
    }

    public char lackSort(int lack) {
        index(in(lack, 0, lacks() - 1));
        return (char) lacks.get(lack)[0];
    }

    // ---- the book

    public boolean shoot(int look) {
        index(has(looks, look));
        Look one = looks.get(look);
        int colour = one.head == -1 ? -1 : pieces.get(one.head).colour();
        String shown = colour + " " + (one.beard != -1) + " " + one.layers;
        String told = book.putIfAbsent(one.person + " " + one.day, shown);
        boolean isAsTold = told == null || told.equals(shown);
        mistakes += isAsTold ? 0 : 1;
        return isAsTold;
    }

    public int mistakes() {
        return mistakes;
    }

    // ---- boxes and hire

    public int box(char sort) {
        argument(sort == 'w' || sort == 'b');
        state(boxes.size() < 4);
        boxes.add(sort);
        return boxes.size() - 1;
    }

    public int store(int box, int slot, int piece) {
        index(has(boxes, box) && has(pieces, piece));
        argument(in(slot, 0, 3));
        Piece one = pieces.get(piece);
        supported(!one.away() && boxes.get(box) == (one.head ? 'w' : 'b'));
        supported(pieces.stream().noneMatch(other -> other.box == box && other.slot == slot));
        one.box = box;
        one.slot = slot;
        return (int) pieces.stream().filter(other -> other.box == box).count();
    }

    public int unbox(int piece) {
        index(has(pieces, piece));
        Piece one = pieces.get(piece);
        supported(one.box != -1);
        int box = one.box;
        one.box = -1;
        one.slot = -1;
        return box;
    }

    private static int charge(Piece piece) {
        return 1 + piece.knots().size() / 20;
    }

    public int hire(int piece, int days) {
        index(has(pieces, piece));
        argument(in(days, 1, 30));
        Piece one = pieces.get(piece);
        supported(!one.away());
        one.outFrom = day;
        one.outDays = days;
        return days * charge(one);
    }

    public int back(int piece) {
        index(has(pieces, piece));
        Piece one = pieces.get(piece);
        supported(one.outFrom >= 0);
        int cost = one.outDays * charge(one);
        for (int late = one.outFrom + one.outDays; late < day; late++) {
            cost += 2 * charge(one);
        }
        one.outFrom = -1;
        money += cost;
        return cost;
    }

    public int days(int days) {
        argument(in(days, 1, 60));
        state(day + days <= 999);
        day += days;
        return day;
    }

    public int money() {
        return money;
    }

    // ---- sums

    public long checksum() {
        long sum = 7;
        for (Piece piece : pieces) {
            for (int number : new int[] {piece.knots().size(), piece.colour(), piece.set}) {
                sum = 31 * sum + number;
            }
        }
        return 31 * sum + bundles.stream().mapToInt(bundle -> bundle.grams).sum();
    }

    public float fullShare(int piece) {
        index(has(pieces, piece));
        List<Place> open = pieces.get(piece).open();
        float full = open.stream().filter(place -> !place.knots.isEmpty()).count();
        return full / open.size();
    }

    public double meanLength(int piece) {
        index(has(pieces, piece));
        double sum = 0;
        double many = 0;
        for (int at = 0; at < 36; at++) {
            if (!pieces.get(piece).places[at / 6][at % 6].knots.isEmpty()) {
                sum += place(piece, at % 6, at / 6, 'l');
                many++;
            }
        }
        if (many == 0) {
            throw new ArithmeticException();
        }
        return sum / many;
    }

    public boolean isSound() {
        return true;
    }
}
