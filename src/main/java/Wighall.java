import java.util.ArrayList;
import java.util.NoSuchElementException;

/** The wig house of a theatre. README.md says how to use it, ../shared/DOC.md what each call promises. */
public final class Wighall {
    private static final int NONE = -1;

    private static final int MOST_BUNDLES = 20;
    private static final int LEAST_HAIR = 5;
    private static final int MOST_HAIR = 60;
    private static final int MOST_COLOUR = 99;
    private static final int MOST_GRAMS = 500;
    private static final int MIXABLE_LENGTHS = 5;
    private static final int BLEACHING = 20;
    private static final int MOST_BLEACHINGS = 2;
    private static final int KNOTS_OF_A_GRAM = 10;

    private static final int MOST_PIECES = 12;
    private static final int LEAST_SIZE = 500;
    private static final int MOST_SIZE = 620;
    private static final int SIDE = 6;
    private static final int BEARD_ROWS = 2;
    private static final int FIRST_CROWN_X = 2;
    private static final int FIRST_CROWN_Y = 3;
    private static final int MOST_KNOTS = 9;
    private static final int MOST_FRONT_KNOTS = 3;
    private static final int MOST_BUNDLES_OF_A_PLACE = 3;
    private static final int EVEN_KNOTS = 3;

    private static final int MOST_PEOPLE = 10;
    private static final int MOST_SWEAT = 9;
    private static final int MOST_GLUE = 3;
    private static final int ALL_GLUES = 15;
    private static final int FITTING = 10;

    private static final int MOST_LOOKS = 24;
    private static final int MOST_LAYERS = 5;
    private static final int MOST_STORY_DAY = 99;
    private static final int HEAD_SECONDS = 40;
    private static final int BEARD_SECONDS = 60;
    private static final int LAYER_SECONDS = 25;

    private static final int MOST_SCENES = 12;
    private static final int MOST_SCENE_MINUTES = 60;
    private static final int MOST_DRESSERS = 4;
    private static final int MINUTE = 60;
    private static final int SECONDS_OF_THE_LATER_SCENE = 20;

    private static final int FRESH_SET = 100;
    private static final int LEAST_SET_THAT_HOLDS = 40;
    private static final int BEARD_MINUTES = 60;
    private static final int BEARD_MINUTES_OF_A_SWEAT = 5;
    private static final int MOST_LACKS_KEPT = 60;

    private static final int MOST_BOXES = 4;
    private static final int SLOTS = 4;
    private static final int MOST_HIRE_DAYS = 30;
    private static final int KNOTS_OF_A_CHARGE = 20;
    private static final int MOST_DAYS_AT_ONCE = 60;
    private static final int LAST_DAY = 999;

    private final ArrayList<Bundle> bundles = new ArrayList<Bundle>();
    private final ArrayList<Piece> pieces = new ArrayList<Piece>();
    private final ArrayList<Person> people = new ArrayList<Person>();
    private final ArrayList<Look> looks = new ArrayList<Look>();
    private final ArrayList<Scene> scenes = new ArrayList<Scene>();
    private final ArrayList<Dresser> dressers = new ArrayList<Dresser>();
    private final ArrayList<Box> boxes = new ArrayList<Box>();
    private final ArrayList<Shot> book = new ArrayList<Shot>();

    // Both rows are filled anew again and again: their objects are used again, and the counts say how many count.
    private final ArrayList<Change> changeRow = new ArrayList<Change>();
    private int changeCount;
    private final ArrayList<Lack> lackRow = new ArrayList<Lack>();
    private int lackCount;

    private int mistakeCount;
    private int today;
    private int earned;

    public Wighall() {
    }

    // ---- hair

    public int bundle(char origin, int length, int colour, int grams)
            throws IllegalArgumentException, IllegalStateException {
        if (origin != 'h' && origin != 'y' && origin != 's') {
            throw new IllegalArgumentException("no such origin");
        }
        if (!isWithin(length, LEAST_HAIR, MOST_HAIR) || !isWithin(colour, 0, MOST_COLOUR)
                || !isWithin(grams, 1, MOST_GRAMS)) {
            throw new IllegalArgumentException("a number of the bundle is out of range");
        }
        if (bundles.size() >= MOST_BUNDLES) {
            throw new IllegalStateException("no more bundles");
        }
        bundles.add(new Bundle(origin, length, colour, grams, 0));
        return bundles.size() - 1;
    }

    public int mix(int one, int other, int grams, int more)
            throws IndexOutOfBoundsException, IllegalArgumentException, UnsupportedOperationException,
            IllegalStateException {
        Bundle first = bundleAt(one);
        Bundle second = bundleAt(other);
        // Each number is looked at alone ahead of the sum, which could wrap around otherwise.
        if (one == other || !isWithin(grams, 1, MOST_GRAMS) || !isWithin(more, 1, MOST_GRAMS)
                || grams + more > MOST_GRAMS) {
            throw new IllegalArgumentException("no such mixture");
        }
        if (first.origin != second.origin || Math.abs(first.length - second.length) > MIXABLE_LENGTHS
                || first.grams < grams || second.grams < more) {
            throw new UnsupportedOperationException("the bundles cannot be mixed so");
        }
        if (bundles.size() >= MOST_BUNDLES) {
            throw new IllegalStateException("no more bundles");
        }
        first.grams -= grams;
        second.grams -= more;
        int colour = (first.colour * grams + second.colour * more) / (grams + more);
        bundles.add(new Bundle(first.origin, Math.min(first.length, second.length), colour, grams + more,
                Math.max(first.bleachings, second.bleachings)));
        return bundles.size() - 1;
    }

    public int bleach(int bundle) throws IndexOutOfBoundsException, UnsupportedOperationException {
        Bundle bleached = bundleAt(bundle);
        if (bleached.isMade() || bleached.bleachings >= MOST_BLEACHINGS) {
            throw new UnsupportedOperationException("the bundle cannot be bleached");
        }
        bleached.bleachings++;
        bleached.colour = Math.min(MOST_COLOUR, bleached.colour + BLEACHING);
        return bleached.colour;
    }

    public int hair(int bundle, char what) throws IndexOutOfBoundsException, IllegalArgumentException {
        Bundle asked = bundleAt(bundle);
        switch (what) {
            case 'l':
                return asked.length;
            case 'c':
                return asked.colour;
            case 'g':
                return asked.grams;
            case 'b':
                return asked.bleachings;
            default:
                throw new IllegalArgumentException("a bundle has no such thing");
        }
    }

    // ---- pieces

    public int piece(char sort, int size) throws IllegalArgumentException, IllegalStateException {
        if (!isSort(sort) || (sort == 'w' && !isWithin(size, LEAST_SIZE, MOST_SIZE))) {
            throw new IllegalArgumentException("no such piece can be made");
        }
        if (pieces.size() >= MOST_PIECES) {
            throw new IllegalStateException("no more pieces");
        }
        boolean head = sort == 'w';
        pieces.add(new Piece(head, head ? size : 0));
        return pieces.size() - 1;
    }

    public int crown(int piece, int x, int y) throws IndexOutOfBoundsException, IllegalArgumentException {
        Piece told = pieceAt(piece);
        if (!isPlace(x, y)) {
            throw new IllegalArgumentException("no such place");
        }
        int before = SIDE * told.crownY + told.crownX;
        told.crownX = x;
        told.crownY = y;
        return before;
    }

    public char turn(int piece, int x, int y, char turn)
            throws IndexOutOfBoundsException, IllegalArgumentException, UnsupportedOperationException {
        Spot spot = pieceAt(piece).spotAt(x, y);
        if (turn != 'r' && turn != 'l' && turn != '-') {
            throw new IllegalArgumentException("no such turn");
        }
        if (spot.knots > 0) {
            throw new UnsupportedOperationException("the place has knots");
        }
        char before = spot.turned;
        spot.turned = turn;
        return before;
    }

    public int flow(int piece, int x, int y) throws IndexOutOfBoundsException, IllegalArgumentException {
        return pieceAt(piece).turnedFlow(x, y);
    }

    public int knot(int piece, int x, int y, int bundle, int many)
            throws IndexOutOfBoundsException, IllegalArgumentException, UnsupportedOperationException {
        Piece knotted = pieceAt(piece);
        Bundle from = bundleAt(bundle);
        Spot spot = knotted.spotAt(x, y);
        if (!isWithin(many, 1, MOST_KNOTS)) {
            throw new IllegalArgumentException("no such number of knots");
        }
        int grams = gramsFor(many);
        if (knotted.isAway() || y >= knotted.rows() || spot.knots + many > knotted.room(y)
                || spot.bundlesWith(bundle) > MOST_BUNDLES_OF_A_PLACE || from.grams < grams) {
            throw new UnsupportedOperationException("this cannot be knotted");
        }
        if (spot.knots == 0) {
            spot.lies = knotted.turnedFlow(x, y);
        }
        spot.take(bundle, from, many);
        from.grams -= grams;
        knotted.minutes += y == 0 ? 2 * many : many;
        return spot.knots;
    }

    public int unknot(int piece, int x, int y)
            throws IndexOutOfBoundsException, IllegalArgumentException, UnsupportedOperationException {
        Piece undone = pieceAt(piece);
        Spot spot = undone.spotAt(x, y);
        if (undone.isAway() || spot.knots == 0) {
            throw new UnsupportedOperationException("there is nothing to take out");
        }
        int before = spot.knots;
        spot.empty();
        return before;
    }

    public int cut(int piece, int x, int y, int length)
            throws IndexOutOfBoundsException, IllegalArgumentException, UnsupportedOperationException {
        Piece trimmed = pieceAt(piece);
        Spot spot = trimmed.spotAt(x, y);
        if (!isWithin(length, 1, MOST_HAIR)) {
            throw new IllegalArgumentException("no such length");
        }
        if (trimmed.isAway() || spot.knots == 0) {
            throw new UnsupportedOperationException("there is nothing to cut");
        }
        int before = spot.shortest;
        spot.shortest = Math.min(before, length);
        return before;
    }

    public int place(int piece, int x, int y, char what)
            throws IndexOutOfBoundsException, IllegalArgumentException, NoSuchElementException {
        Spot spot = pieceAt(piece).spotAt(x, y);
        if (what != 'k' && what != 'c' && what != 'l' && what != 'd' && what != 'b') {
            throw new IllegalArgumentException("a place has no such thing");
        }
        if (spot.knots == 0) {
            throw new NoSuchElementException("the place has no knots");
        }
        switch (what) {
            case 'k':
                return spot.knots;
            case 'c':
                return spot.meanColour();
            case 'l':
                return spot.shortest;
            case 'd':
                return spot.lies;
            default:
                return Integer.bitCount(spot.bundleBits);
        }
    }

    public int of(int piece, char what) throws IndexOutOfBoundsException, IllegalArgumentException {
        Piece asked = pieceAt(piece);
        switch (what) {
            case 'k':
                return asked.allKnots();
            case 'm':
                return asked.minutes;
            case 's':
                return asked.setness;
            case 'c':
                return asked.meanColour();
            case 'z':
                return asked.size;
            default:
                throw new IllegalArgumentException("a piece has no such thing");
        }
    }

    public boolean isFull(int piece) throws IndexOutOfBoundsException {
        Piece asked = pieceAt(piece);
        return asked.knottedSpots() == asked.openSpots();
    }

    public boolean isEven(int piece) throws IndexOutOfBoundsException {
        Piece asked = pieceAt(piece);
        for (int y = 0; y < asked.rows(); y++) {
            for (int x = 0; x < SIDE; x++) {
                if (!asked.isEvenWith(x, y, x + 1, y) || !asked.isEvenWith(x, y, x, y + 1)) {
                    return false;
                }
            }
        }
        return true;
    }

    public int set(int piece) throws IndexOutOfBoundsException, UnsupportedOperationException {
        Piece dressed = pieceAt(piece);
        if (!dressed.head || dressed.isAway() || dressed.allKnots() == 0) {
            throw new UnsupportedOperationException("this cannot be set");
        }
        int before = dressed.setness;
        dressed.setness = FRESH_SET;
        return before;
    }

    // ---- people and looks

    public int person(int measure, int sweat, int glues) throws IllegalArgumentException, IllegalStateException {
        if (!isWithin(measure, LEAST_SIZE, MOST_SIZE) || !isWithin(sweat, 0, MOST_SWEAT)
                || !isWithin(glues, 0, ALL_GLUES)) {
            throw new IllegalArgumentException("a number of the person is out of range");
        }
        if (people.size() >= MOST_PEOPLE) {
            throw new IllegalStateException("no more people");
        }
        people.add(new Person(measure, sweat, glues));
        return people.size() - 1;
    }

    public boolean tryGlue(int person, int glue)
            throws IndexOutOfBoundsException, IllegalArgumentException, UnsupportedOperationException {
        Person trying = personAt(person);
        if (!isWithin(glue, 0, MOST_GLUE)) {
            throw new IllegalArgumentException("no such glue");
        }
        if (trying.isBarred(glue)) {
            throw new UnsupportedOperationException("the glue is barred");
        }
        return trying.bearsOnTrial(glue);
    }

    public int barred(int person) throws IndexOutOfBoundsException {
        return personAt(person).knownBits;
    }

    public boolean fits(int piece, int person) throws IndexOutOfBoundsException {
        return fitsOn(pieceAt(piece), personAt(person));
    }

    public int look(int person, int head, int beard, int glue, int layers, int day)
            throws IndexOutOfBoundsException, IllegalArgumentException, UnsupportedOperationException,
            IllegalStateException {
        Person wearer = personAt(person);
        Piece worn = pieceOrNull(head);
        Piece glued = pieceOrNull(beard);
        if ((glued != null && !isWithin(glue, 0, MOST_GLUE)) || !isWithin(layers, 0, MOST_LAYERS)
                || !isWithin(day, 0, MOST_STORY_DAY)) {
            throw new IllegalArgumentException("a number of the look is out of range");
        }
        if (worn != null && (!worn.head || worn.isAway() || !fitsOn(worn, wearer))) {
            throw new UnsupportedOperationException("the head is refused");
        }
        if (glued != null && (glued.head || glued.isAway() || wearer.isBarred(glue))) {
            throw new UnsupportedOperationException("the beard is refused");
        }
        if (looks.size() >= MOST_LOOKS) {
            throw new IllegalStateException("no more looks");
        }
        // A glue without a beard has no meaning: kept as 0, it never makes two looks unlike.
        looks.add(new Look(person, head, beard, glued == null ? 0 : glue, layers, day));
        return looks.size() - 1;
    }

    public int seconds(int look, int other) throws IndexOutOfBoundsException, IllegalArgumentException {
        Look from = lookAt(look);
        Look to = lookAt(other);
        if (from.who != to.who) {
            throw new IllegalArgumentException("the looks are of different people");
        }
        return from.secondsTo(to);
    }

    // ---- the plan of the show

    public int scene(int minutes, int wing) throws IllegalArgumentException, IllegalStateException {
        if (!isWithin(minutes, 1, MOST_SCENE_MINUTES) || !isWithin(wing, 0, 1)) {
            throw new IllegalArgumentException("a number of the scene is out of range");
        }
        if (scenes.size() >= MOST_SCENES) {
            throw new IllegalStateException("no more scenes");
        }
        scenes.add(new Scene(minutes, wing));
        return scenes.size() - 1;
    }

    public int enter(int scene, int look) throws IndexOutOfBoundsException {
        Scene entered = sceneAt(scene);
        return entered.replaceLook(lookAt(look).who, look);
    }

    public int exit(int scene, int person) throws IndexOutOfBoundsException {
        Scene left = sceneAt(scene);
        personAt(person);
        return left.replaceLook(person, NONE);
    }

    public int dresser(int wing) throws IllegalArgumentException, IllegalStateException {
        if (!isWithin(wing, 0, 1)) {
            throw new IllegalArgumentException("no such wing");
        }
        if (dressers.size() >= MOST_DRESSERS) {
            throw new IllegalStateException("no more dressers");
        }
        dressers.add(new Dresser(wing));
        return dressers.size() - 1;
    }

    public int changes() {
        planChanges();
        return changeCount;
    }

    public int change(int change, char what) throws IndexOutOfBoundsException, IllegalArgumentException {
        planChanges();
        Change asked = changeAt(change);
        switch (what) {
            case 'p':
                return asked.who;
            case 's':
                return asked.needed;
            case 't':
                return asked.given;
            case 'a':
                return asked.ahead;
            case 'b':
                return asked.behind;
            case 'd':
                return asked.byDresser;
            default:
                throw new IllegalArgumentException("a change has no such thing");
        }
    }

    public int late() {
        planChanges();
        int count = 0;
        for (int i = 0; i < changeCount; i++) {
            if (changeAt(i).byDresser == NONE) {
                count++;
            }
        }
        return count;
    }

    // ---- the show

    public int show() throws UnsupportedOperationException, IllegalStateException {
        for (int scene = 0; scene < scenes.size(); scene++) {
            if (lacksAPiece(scene)) {
                throw new UnsupportedOperationException("a piece is out or in a box");
            }
        }
        if (scenes.isEmpty()) {
            throw new IllegalStateException("there are no scenes");
        }
        planChanges();
        lackCount = 0;
        for (int who = 0; who < people.size(); who++) {
            personAt(who).wearBeard(NONE, 0, 0);
        }
        for (int scene = 0; scene < scenes.size(); scene++) {
            for (int who = 0; who < people.size(); who++) {
                playPart(scene, who);
            }
        }
        return lackCount;
    }

    public int lacks() {
        return Math.min(lackCount, MOST_LACKS_KEPT);
    }

    public int lack(int lack, char what) throws IndexOutOfBoundsException, IllegalArgumentException {
        Lack asked = lackAt(lack);
        switch (what) {
            case 's':
                return asked.inScene;
            case 'p':
                return asked.who;
            default:
                throw new IllegalArgumentException("a lack has no such thing");
        }
    }

    public char lackSort(int lack) throws IndexOutOfBoundsException {
        return lackAt(lack).kind;
    }

    // ---- the book

    public boolean shoot(int look) throws IndexOutOfBoundsException {
        Look shown = lookAt(look);
        Piece head = pieceOrNull(shown.head);
        Shot shot = new Shot(shown, head == null ? NONE : head.meanColour());
        for (int i = 0; i < book.size(); i++) {
            if (book.get(i).isOfSameDay(shot)) {
                boolean asTold = book.get(i).showsTheSame(shot);
                mistakeCount += asTold ? 0 : 1;
                return asTold;
            }
        }
        book.add(shot);
        return true;
    }

    public int mistakes() {
        return mistakeCount;
    }

    // ---- boxes and hire

    public int box(char sort) throws IllegalArgumentException, IllegalStateException {
        if (!isSort(sort)) {
            throw new IllegalArgumentException("no such sort");
        }
        if (boxes.size() >= MOST_BOXES) {
            throw new IllegalStateException("no more boxes");
        }
        boxes.add(new Box(sort == 'w'));
        return boxes.size() - 1;
    }

    public int store(int box, int slot, int piece)
            throws IndexOutOfBoundsException, IllegalArgumentException, UnsupportedOperationException {
        Box into = boxAt(box);
        Piece stored = pieceAt(piece);
        if (!isWithin(slot, 0, SLOTS - 1)) {
            throw new IllegalArgumentException("no such slot");
        }
        if (stored.isAway() || stored.head != into.forHeads || into.inSlot(slot) != NONE) {
            throw new UnsupportedOperationException("the piece cannot be stored there");
        }
        into.fillSlot(slot, piece);
        stored.inBox = box;
        return into.count();
    }

    public int unbox(int piece) throws IndexOutOfBoundsException, UnsupportedOperationException {
        Piece taken = pieceAt(piece);
        if (taken.inBox == NONE) {
            throw new UnsupportedOperationException("the piece is in no box");
        }
        int box = taken.inBox;
        boxAt(box).release(piece);
        taken.inBox = NONE;
        return box;
    }

    public int hire(int piece, int days)
            throws IndexOutOfBoundsException, IllegalArgumentException, UnsupportedOperationException {
        Piece lent = pieceAt(piece);
        if (!isWithin(days, 1, MOST_HIRE_DAYS)) {
            throw new IllegalArgumentException("no such number of days");
        }
        if (lent.isAway()) {
            throw new UnsupportedOperationException("the piece is not there");
        }
        lent.isOut = true;
        lent.outSince = today;
        lent.daysTold = days;
        return days * lent.chargeADay();
    }

    public int back(int piece) throws IndexOutOfBoundsException, UnsupportedOperationException {
        Piece lent = pieceAt(piece);
        if (!lent.isOut) {
            throw new UnsupportedOperationException("the piece is not out");
        }
        int longer = Math.max(0, today - lent.outSince - lent.daysTold);
        int cost = (lent.daysTold + 2 * longer) * lent.chargeADay();
        lent.isOut = false;
        earned += cost;
        return cost;
    }

    public int days(int days) throws IllegalArgumentException, IllegalStateException {
        if (!isWithin(days, 1, MOST_DAYS_AT_ONCE)) {
            throw new IllegalArgumentException("no such number of days");
        }
        if (today + days > LAST_DAY) {
            throw new IllegalStateException("there are no such days");
        }
        today += days;
        return today;
    }

    public int money() {
        return earned;
    }

    // ---- sums over the house

    public long checksum() {
        long sum = 7;
        for (int i = 0; i < pieces.size(); i++) {
            Piece piece = pieces.get(i);
            sum = 31 * sum + piece.allKnots();
            sum = 31 * sum + piece.meanColour();
            sum = 31 * sum + piece.setness;
        }
        long grams = 0;
        for (int i = 0; i < bundles.size(); i++) {
            grams += bundles.get(i).grams;
        }
        return 31 * sum + grams;
    }

    public float fullShare(int piece) throws IndexOutOfBoundsException {
        Piece asked = pieceAt(piece);
        int open = asked.openSpots();
        return open == 0 ? 0 : (float) asked.knottedSpots() / (float) open;
    }

    public double meanLength(int piece) throws IndexOutOfBoundsException, ArithmeticException {
        Piece asked = pieceAt(piece);
        int knotted = asked.knottedSpots();
        if (knotted == 0) {
            throw new ArithmeticException("no place has knots");
        }
        return (double) asked.allLengths() / (double) knotted;
    }

    public boolean isSound() {
        planChanges();
        return placesHold() && slotsAgree() && dressersAgree() && bookAgrees();
    }

    // ---- what has a number is looked up here alone, so that no number is used unseen

    private static boolean isWithin(int number, int least, int most) {
        return number >= least && number <= most;
    }

    private static boolean isPlace(int x, int y) {
        return isWithin(x, 0, SIDE - 1) && isWithin(y, 0, SIDE - 1);
    }

    private static boolean isSort(char sort) {
        return sort == 'w' || sort == 'b';
    }

    private Bundle bundleAt(int bundle) {
        if (bundle < 0 || bundle >= bundles.size()) {
            throw new IndexOutOfBoundsException("no such bundle");
        }
        return bundles.get(bundle);
    }

    private Piece pieceAt(int piece) {
        if (piece < 0 || piece >= pieces.size()) {
            throw new IndexOutOfBoundsException("no such piece");
        }
        return pieces.get(piece);
    }

    private Piece pieceOrNull(int piece) {
        return piece == NONE ? null : pieceAt(piece);
    }

    private Person personAt(int person) {
        if (person < 0 || person >= people.size()) {
            throw new IndexOutOfBoundsException("no such person");
        }
        return people.get(person);
    }

    private Look lookAt(int look) {
        if (look < 0 || look >= looks.size()) {
            throw new IndexOutOfBoundsException("no such look");
        }
        return looks.get(look);
    }

    private Scene sceneAt(int scene) {
        if (scene < 0 || scene >= scenes.size()) {
            throw new IndexOutOfBoundsException("no such scene");
        }
        return scenes.get(scene);
    }

    /** The look of a person in a scene, null if the person is not in it. */
    private Look lookIn(int scene, int who) {
        int look = sceneAt(scene).lookOf(who);
        return look == NONE ? null : lookAt(look);
    }

    private Change changeAt(int change) {
        if (change < 0 || change >= changeCount || change >= changeRow.size()) {
            throw new IndexOutOfBoundsException("no such change");
        }
        return changeRow.get(change);
    }

    private Lack lackAt(int lack) {
        if (lack < 0 || lack >= lackCount || lack >= lackRow.size()) {
            throw new IndexOutOfBoundsException("no such lack");
        }
        return lackRow.get(lack);
    }

    private Box boxAt(int box) {
        if (box < 0 || box >= boxes.size()) {
            throw new IndexOutOfBoundsException("no such box");
        }
        return boxes.get(box);
    }

    // ---- hair and fitting

    /** A gram that was begun is gone, and none is carried over from one knotting to the next. */
    private static int gramsFor(int knots) {
        return (knots + KNOTS_OF_A_GRAM - 1) / KNOTS_OF_A_GRAM;
    }

    private static boolean fitsOn(Piece piece, Person person) {
        return !piece.head || Math.abs(piece.size - person.measure) <= FITTING;
    }

    // ---- changes

    /** Plans by the scene ahead, then by people: the order in which the changes are to be dealt with. */
    private void planChanges() {
        changeCount = 0;
        for (int i = 0; i < dressers.size(); i++) {
            dressers.get(i).freeFrom = 0;
        }
        int end = 0;
        for (int scene = 0; scene < scenes.size(); scene++) {
            end += MINUTE * scenes.get(scene).minutes;
            for (int who = 0; who < people.size(); who++) {
                planChangeBehind(scene, end, who);
            }
        }
    }

    private void planChangeBehind(int scene, int end, int who) {
        Look from = lookIn(scene, who);
        if (from == null) {
            return;
        }
        int given = SECONDS_OF_THE_LATER_SCENE;
        for (int behind = scene + 1; behind < scenes.size(); behind++) {
            Look to = lookIn(behind, who);
            if (to != null) {
                if (from.secondsTo(to) > 0) {
                    Change change = freshChange(who, scene, behind);
                    change.begin = end;
                    change.needed = from.secondsTo(to);
                    change.given = given;
                    change.byDresser = change.needed > given ? NONE : dresserFor(change);
                }
                return;
            }
            given += MINUTE * scenes.get(behind).minutes;
        }
    }

    private Change freshChange(int who, int ahead, int behind) {
        if (changeCount >= changeRow.size()) {
            changeRow.add(new Change());
        }
        changeCount++;
        Change change = changeAt(changeCount - 1);
        change.who = who;
        change.ahead = ahead;
        change.behind = behind;
        return change;
    }

    /** Changes come by their beginnings: who is free at the beginning is free all the time behind it. */
    private int dresserFor(Change change) {
        int wing = sceneAt(change.behind).wing;
        for (int i = 0; i < dressers.size(); i++) {
            Dresser dresser = dressers.get(i);
            if (dresser.wing == wing && dresser.freeFrom <= change.begin) {
                dresser.freeFrom = change.end();
                return i;
            }
        }
        return NONE;
    }

    private boolean isLateFor(int scene, int who) {
        for (int i = 0; i < changeCount; i++) {
            Change change = changeAt(i);
            if (change.behind == scene && change.who == who) {
                return change.byDresser == NONE;
            }
        }
        return false;
    }

    // ---- a show

    private boolean lacksAPiece(int scene) {
        for (int who = 0; who < people.size(); who++) {
            Look look = lookIn(scene, who);
            if (look != null && (isAway(look.head) || isAway(look.beard))) {
                return true;
            }
        }
        return false;
    }

    private boolean isAway(int piece) {
        Piece asked = pieceOrNull(piece);
        return asked != null && asked.isAway();
    }

    private void playPart(int scene, int who) {
        Look look = lookIn(scene, who);
        if (look == null) {
            return;
        }
        boolean headTaken = isTaken(scene, who, look.head);
        boolean beardTaken = isTaken(scene, who, look.beard);
        if (isLateFor(scene, who)) {
            noteLack(scene, who, 'l');
        }
        if (headTaken || beardTaken) {
            noteLack(scene, who, 's');
        }
        if (!headTaken) {
            playHead(scene, who, look);
        }
        playBeard(scene, who, beardTaken ? NONE : look.beard, look.glue);
    }

    /** Whether somebody with a lower number has the piece in the scene, even without wearing it. */
    private boolean isTaken(int scene, int who, int piece) {
        if (piece == NONE) {
            return false;
        }
        for (int lower = 0; lower < who; lower++) {
            Look look = lookIn(scene, lower);
            if (look != null && (look.head == piece || look.beard == piece)) {
                return true;
            }
        }
        return false;
    }

    private void playHead(int scene, int who, Look look) {
        Piece head = pieceOrNull(look.head);
        if (head == null) {
            return;
        }
        head.wearFor(sceneAt(scene).minutes, personAt(who).sweat);
        if (head.setness < LEAST_SET_THAT_HOLDS) {
            noteLack(scene, who, 'd');
        }
    }

    private void playBeard(int scene, int who, int beard, int glue) {
        Person person = personAt(who);
        person.wearBeard(beard, glue, sceneAt(scene).minutes);
        if (beard == NONE) {
            return;
        }
        if (person.beardMinutes > BEARD_MINUTES - BEARD_MINUTES_OF_A_SWEAT * person.sweat) {
            noteLack(scene, who, 'o');
        }
        if (!person.bearsOnTrial(glue)) {
            noteLack(scene, who, 'g');
        }
    }

    /** Counts every lack, but keeps no more than the first ones. */
    private void noteLack(int scene, int who, char kind) {
        lackCount++;
        if (lackCount > MOST_LACKS_KEPT) {
            return;
        }
        if (lackCount > lackRow.size()) {
            lackRow.add(new Lack());
        }
        Lack lack = lackAt(lackCount - 1);
        lack.inScene = scene;
        lack.who = who;
        lack.kind = kind;
    }

    // ---- soundness

    private boolean placesHold() {
        for (int i = 0; i < pieces.size(); i++) {
            if (!pieces.get(i).isWithinItsRoom()) {
                return false;
            }
        }
        return true;
    }

    private boolean slotsAgree() {
        for (int i = 0; i < pieces.size(); i++) {
            int slots = 0;
            for (int k = 0; k < boxes.size(); k++) {
                slots += boxes.get(k).slotsWith(i);
            }
            if (slots != (pieces.get(i).inBox == NONE ? 0 : 1)) {
                return false;
            }
        }
        return true;
    }

    private boolean dressersAgree() {
        for (int i = 0; i < changeCount; i++) {
            for (int k = 0; k < i; k++) {
                if (changeAt(i).clashesWith(changeAt(k))) {
                    return false;
                }
            }
        }
        return true;
    }

    /** A shot is never changed once it is made, so it is enough that none stands behind a first one. */
    private boolean bookAgrees() {
        for (int i = 0; i < book.size(); i++) {
            for (int k = 0; k < i; k++) {
                if (book.get(i).isOfSameDay(book.get(k))) {
                    return false;
                }
            }
        }
        return true;
    }

    // ---- what the house is made of

    private static final class Bundle {
        private final char origin;
        private final int length;
        private int colour;
        private int grams;
        private int bleachings;

        private Bundle(char origin, int length, int colour, int grams, int bleachings) {
            this.origin = origin;
            this.length = length;
            this.colour = colour;
            this.grams = grams;
            this.bleachings = bleachings;
        }

        private boolean isMade() {
            return origin == 's';
        }
    }

    /** A place of a piece. */
    private static final class Spot {
        private char turned = '-';
        private int knots;
        private int madeKnots;
        private int colours;
        private int shortest;
        private int lies;
        private int bundleBits;

        /** How many bundles the place would have with hair of this one. */
        private int bundlesWith(int bundle) {
            return Integer.bitCount(bundleBits | 1 << bundle);
        }

        private void take(int bundle, Bundle from, int many) {
            shortest = knots == 0 ? from.length : Math.min(shortest, from.length);
            knots += many;
            madeKnots += from.isMade() ? many : 0;
            colours += from.colour * many;
            bundleBits |= 1 << bundle;
        }

        /** All but the turn is as at first. */
        private void empty() {
            knots = 0;
            madeKnots = 0;
            colours = 0;
            shortest = 0;
            lies = 0;
            bundleBits = 0;
        }

        private int meanColour() {
            return knots == 0 ? NONE : colours / knots;
        }
    }

    private static final class Piece {
        private final boolean head;
        private final int size;
        private final ArrayList<Spot> spots = new ArrayList<Spot>();
        private int crownX = FIRST_CROWN_X;
        private int crownY = FIRST_CROWN_Y;
        private int minutes;
        private int setness;
        private int inBox = NONE;
        private boolean isOut;
        private int outSince;
        private int daysTold;

        private Piece(boolean head, int size) {
            this.head = head;
            this.size = size;
            for (int i = 0; i < SIDE * SIDE; i++) {
                spots.add(new Spot());
            }
        }

        private Spot spotAt(int x, int y) {
            int number = SIDE * y + x;
            if (!isPlace(x, y) || number >= spots.size()) {
                throw new IllegalArgumentException("no such place");
            }
            return spots.get(number);
        }

        private boolean isAway() {
            return isOut || inBox != NONE;
        }

        private int rows() {
            return head ? SIDE : BEARD_ROWS;
        }

        /** The places that can be knotted; they are the first ones of all. */
        private int openSpots() {
            return SIDE * rows();
        }

        private int room(int y) {
            return head && y == 0 ? MOST_FRONT_KNOTS : MOST_KNOTS;
        }

        private int turnedFlow(int x, int y) {
            char turned = spotAt(x, y).turned;
            int eighths = turned == 'r' ? 1 : turned == 'l' ? -1 : 0;
            return (crownFlow(x - crownX, y - crownY) + eighths) & 7;
        }

        private static int crownFlow(int right, int behind) {
            int across = Math.abs(right);
            int along = Math.abs(behind);
            if (across == 0 && along == 0) {
                return 4;
            }
            if (across > 2 * along) {
                return right > 0 ? 2 : 6;
            }
            if (along > 2 * across) {
                return behind > 0 ? 4 : 0;
            }
            if (right > 0) {
                return behind > 0 ? 3 : 1;
            }
            return behind > 0 ? 5 : 7;
        }

        private int knottedSpots() {
            int count = 0;
            for (int i = 0; i < spots.size(); i++) {
                count += spots.get(i).knots > 0 ? 1 : 0;
            }
            return count;
        }

        private int allKnots() {
            int sum = 0;
            for (int i = 0; i < spots.size(); i++) {
                sum += spots.get(i).knots;
            }
            return sum;
        }

        private int allMadeKnots() {
            int sum = 0;
            for (int i = 0; i < spots.size(); i++) {
                sum += spots.get(i).madeKnots;
            }
            return sum;
        }

        /** A place without knots has no hair, and adds nothing. */
        private int allLengths() {
            int sum = 0;
            for (int i = 0; i < spots.size(); i++) {
                sum += spots.get(i).shortest;
            }
            return sum;
        }

        private int meanColour() {
            int knotted = knottedSpots();
            if (knotted == 0) {
                return NONE;
            }
            int sum = 0;
            for (int i = 0; i < spots.size(); i++) {
                Spot spot = spots.get(i);
                sum += spot.knots > 0 ? spot.meanColour() : 0;
            }
            return sum / knotted;
        }

        /**
         * A place without knots counts as one of 0 knots; a place beyond the last column or row that can be knotted is
         * no neighbour, and never uneven.
         */
        private boolean isEvenWith(int x, int y, int nextX, int nextY) {
            if (nextX >= SIDE || nextY >= rows()) {
                return true;
            }
            int knots = spotAt(x, y).knots;
            int next = spotAt(nextX, nextY).knots;
            return Math.abs(knots - next) <= EVEN_KNOTS;
        }

        /** Without knots both sums are 0, so that such a head keeps its set as one that is made does. */
        private void wearFor(int sceneMinutes, int sweat) {
            boolean keepsLong = 2 * allMadeKnots() >= allKnots();
            int counted = keepsLong ? sceneMinutes / 2 : sceneMinutes;
            setness = Math.max(0, setness - counted * (1 + sweat / 3));
        }

        private int chargeADay() {
            return 1 + allKnots() / KNOTS_OF_A_CHARGE;
        }

        private boolean isWithinItsRoom() {
            for (int y = 0; y < SIDE; y++) {
                for (int x = 0; x < SIDE; x++) {
                    Spot spot = spotAt(x, y);
                    int most = y < rows() ? room(y) : 0;
                    if (spot.knots > most || Integer.bitCount(spot.bundleBits) > MOST_BUNDLES_OF_A_PLACE) {
                        return false;
                    }
                }
            }
            return true;
        }
    }

    private static final class Person {
        private final int measure;
        private final int sweat;
        private final int unborneBits;
        private int knownBits;
        // Of the show that is run: what is on since the scene ahead, and for how long.
        private int beardOn = NONE;
        private int glueOn;
        private int beardMinutes;

        private Person(int measure, int sweat, int unborneBits) {
            this.measure = measure;
            this.sweat = sweat;
            this.unborneBits = unborneBits;
        }

        private boolean isBarred(int glue) {
            return (knownBits >> glue & 1) != 0;
        }

        /** A glue that is not borne is known as barred by it. */
        private boolean bearsOnTrial(int glue) {
            knownBits |= unborneBits & 1 << glue;
            return (unborneBits >> glue & 1) == 0;
        }

        private void wearBeard(int beard, int glue, int sceneMinutes) {
            boolean goesOn = beard != NONE && beard == beardOn && glue == glueOn;
            beardMinutes = goesOn ? beardMinutes + sceneMinutes : sceneMinutes;
            beardOn = beard;
            glueOn = glue;
        }
    }

    private static final class Look {
        private final int who;
        private final int head;
        private final int beard;
        private final int glue;
        private final int layers;
        private final int storyDay;

        private Look(int who, int head, int beard, int glue, int layers, int storyDay) {
            this.who = who;
            this.head = head;
            this.beard = beard;
            this.glue = glue;
            this.layers = layers;
            this.storyDay = storyDay;
        }

        private int secondsTo(Look other) {
            int heads = head != other.head ? HEAD_SECONDS : 0;
            int beards = beard != other.beard || glue != other.glue ? BEARD_SECONDS : 0;
            return heads + beards + LAYER_SECONDS * Math.abs(layers - other.layers);
        }
    }

    private static final class Scene {
        private final int minutes;
        private final int wing;
        private final int[] lookOfPerson = new int[MOST_PEOPLE];

        private Scene(int minutes, int wing) {
            this.minutes = minutes;
            this.wing = wing;
            for (int i = 0; i < lookOfPerson.length; i++) {
                lookOfPerson[i] = NONE;
            }
        }

        private int lookOf(int who) {
            return who >= 0 && who < lookOfPerson.length ? lookOfPerson[who] : NONE;
        }

        private int replaceLook(int who, int look) {
            int before = lookOf(who);
            if (who >= 0 && who < lookOfPerson.length) {
                lookOfPerson[who] = look;
            }
            return before;
        }
    }

    private static final class Dresser {
        private final int wing;
        private int freeFrom;

        private Dresser(int wing) {
            this.wing = wing;
        }
    }

    private static final class Change {
        private int who;
        private int ahead;
        private int behind;
        private int begin;
        private int needed;
        private int given;
        private int byDresser;

        private int end() {
            return begin + needed;
        }

        private boolean clashesWith(Change other) {
            return byDresser != NONE && byDresser == other.byDresser
                    && begin < other.end() && other.begin < end();
        }
    }

    private static final class Lack {
        private int inScene;
        private int who;
        private char kind;
    }

    private static final class Shot {
        private final int who;
        private final int storyDay;
        private final int headColour;
        private final boolean hasBeard;
        private final int layers;

        private Shot(Look look, int headColour) {
            this.who = look.who;
            this.storyDay = look.storyDay;
            this.headColour = headColour;
            this.hasBeard = look.beard != NONE;
            this.layers = look.layers;
        }

        private boolean isOfSameDay(Shot other) {
            return who == other.who && storyDay == other.storyDay;
        }

        private boolean showsTheSame(Shot other) {
            return headColour == other.headColour && hasBeard == other.hasBeard && layers == other.layers;
        }
    }

    private static final class Box {
        private final boolean forHeads;
        private final int[] pieceInSlot = new int[SLOTS];

        private Box(boolean forHeads) {
            this.forHeads = forHeads;
            for (int i = 0; i < pieceInSlot.length; i++) {
                pieceInSlot[i] = NONE;
            }
        }

        private int inSlot(int slot) {
            return slot >= 0 && slot < pieceInSlot.length ? pieceInSlot[slot] : NONE;
        }

        private void fillSlot(int slot, int piece) {
            if (slot >= 0 && slot < pieceInSlot.length) {
                pieceInSlot[slot] = piece;
            }
        }

        private void release(int piece) {
            for (int i = 0; i < pieceInSlot.length; i++) {
                if (pieceInSlot[i] == piece) {
                    pieceInSlot[i] = NONE;
                }
            }
        }

        private int slotsWith(int piece) {
            int count = 0;
            for (int i = 0; i < pieceInSlot.length; i++) {
                count += pieceInSlot[i] == piece ? 1 : 0;
            }
            return count;
        }

        private int count() {
            return SLOTS - slotsWith(NONE);
        }
    }
}
