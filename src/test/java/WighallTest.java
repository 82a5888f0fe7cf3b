import java.util.NoSuchElementException;

/** For each promise of the document: ordinary inputs, the edges that it names, and wrong inputs. */
public final class WighallTest {
    private static final Class<IndexOutOfBoundsException> INDEX = IndexOutOfBoundsException.class;
    private static final Class<IllegalArgumentException> ARGUMENT = IllegalArgumentException.class;
    private static final Class<UnsupportedOperationException> UNSUPPORTED = UnsupportedOperationException.class;
    private static final Class<IllegalStateException> STATE = IllegalStateException.class;

    private static int promise;
    private static int checks;
    private static int wrong;

    private interface Call {
        Object run();
    }

    public static void main(String[] args) {
        Runnable[] promises = {
            WighallTest::newObject, WighallTest::bundle, WighallTest::mix, WighallTest::bleach, WighallTest::hair,
            WighallTest::piece, WighallTest::crown, WighallTest::turn, WighallTest::flow, WighallTest::knot,
            WighallTest::unknot, WighallTest::cut, WighallTest::place, WighallTest::of, WighallTest::isFull,
            WighallTest::isEven, WighallTest::set, WighallTest::person, WighallTest::tryGlue, WighallTest::barred,
            WighallTest::fits, WighallTest::look, WighallTest::seconds, WighallTest::scene, WighallTest::enter,
            WighallTest::exit, WighallTest::dresser, WighallTest::changes, WighallTest::change, WighallTest::late,
            WighallTest::show, WighallTest::lacks, WighallTest::lack, WighallTest::lackSort, WighallTest::shoot,
            WighallTest::mistakes, WighallTest::box, WighallTest::store, WighallTest::unbox, WighallTest::hire,
            WighallTest::back, WighallTest::days, WighallTest::money, WighallTest::checksum, WighallTest::fullShare,
            WighallTest::meanLength, WighallTest::isSound,
        };
        for (Runnable test : promises) {
            promise++;
            int before = checks;
            try {
                test.run();
            } catch (RuntimeException e) {
                wrong++;
                System.out.println("promise " + promise + ": the test was broken off by " + e);
                e.printStackTrace(System.out);
            }
            if (checks == before) {
                wrong++;
                System.out.println("promise " + promise + ": nothing was checked");
            }
        }
        System.out.println(promise + " promises, " + checks + " checks, " + wrong + " wrong");
        if (wrong != 0) {
            System.exit(1);
        }
    }

    // ---- how answers are checked

    private static void due(String call, Object got, Object want) {
        checks++;
        if (!want.equals(got)) {
            wrong++;
            System.out.println("promise " + promise + ": " + call + " answered " + got + ", due is " + want);
        }
    }

    /** The exception has to be the one told, thrown by the class's own throw, and to change nothing. */
    private static void refused(Wighall house, String call, Class<? extends RuntimeException> kind, Call refused) {
        checks++;
        String before = HouseView.of(house);
        String got;
        try {
            got = "answered " + refused.run();
        } catch (RuntimeException e) {
            got = e.getClass() == kind && isOwnThrow(e) ? null : "threw " + e;
        }
        if (got != null) {
            wrong++;
            System.out.println("promise " + promise + ": " + call + " " + got + ", due is " + kind.getSimpleName());
        }
        if (!before.equals(HouseView.of(house))) {
            wrong++;
            System.out.println("promise " + promise + ": " + call + " changed something, though it was refused");
        }
    }

    private static boolean isOwnThrow(RuntimeException e) {
        StackTraceElement[] trace = e.getStackTrace();
        return trace.length > 0 && (trace[0].getClassName() + "$").startsWith("Wighall$");
    }

    // ---- houses to begin with

    private static Wighall houseWithHair() {
        Wighall house = new Wighall();
        house.bundle('h', 30, 40, 500);
        house.bundle('y', 20, 10, 500);
        house.bundle('s', 25, 70, 500);
        house.bundle('h', 50, 3, 500);
        return house;
    }

    /** Hair as above, head 0 of 560, beard 1, head 2 of 570. */
    private static Wighall houseWithPieces() {
        Wighall house = houseWithHair();
        house.piece('w', 560);
        house.piece('b', 0);
        house.piece('w', 570);
        return house;
    }

    /** Pieces as above, and the people 0 and 1, who fit all, of sweat 0, who bear all. */
    private static Wighall houseWithPeople() {
        Wighall house = houseWithPieces();
        house.person(560, 0, 0);
        house.person(565, 0, 0);
        return house;
    }

    /** All places of a piece that can be knotted get as many knots of a bundle. */
    private static void fill(Wighall house, int piece, int rows, int bundle, int many) {
        for (int y = 0; y < rows; y++) {
            for (int x = 0; x < 6; x++) {
                house.knot(piece, x, y, bundle, many);
            }
        }
    }

    private static void fillBundles(Wighall house) {
        for (int i = 0; i < 20; i++) {
            house.bundle('h', 30, 40, 100);
        }
    }

    // ---- the promises

    private static void newObject() {
        Wighall house = new Wighall();
        due("checksum()", house.checksum(), 217L);
        due("changes()", house.changes(), 0);
        due("late()", house.late(), 0);
        due("lacks()", house.lacks(), 0);
        due("mistakes()", house.mistakes(), 0);
        due("money()", house.money(), 0);
        due("isSound()", house.isSound(), true);
        due("days(1)", house.days(1), 1);
        refused(house, "hair(0, 'l')", INDEX, () -> house.hair(0, 'l'));
        refused(house, "of(0, 'k')", INDEX, () -> house.of(0, 'k'));
        refused(house, "barred(0)", INDEX, () -> house.barred(0));
    }

    private static void bundle() {
        Wighall house = new Wighall();
        due("bundle('h', 5, 0, 1)", house.bundle('h', 5, 0, 1), 0);
        due("bundle('y', 60, 99, 500)", house.bundle('y', 60, 99, 500), 1);
        due("bundle('s', 30, 40, 100)", house.bundle('s', 30, 40, 100), 2);
        due("hair(1, 'l')", house.hair(1, 'l'), 60);
        due("hair(1, 'c')", house.hair(1, 'c'), 99);
        due("hair(1, 'g')", house.hair(1, 'g'), 500);
        refused(house, "bundle('q', 30, 40, 100)", ARGUMENT, () -> house.bundle('q', 30, 40, 100));
        refused(house, "bundle('H', 30, 40, 100)", ARGUMENT, () -> house.bundle('H', 30, 40, 100));
        for (int bad : new int[] {4, 61, -1, Integer.MIN_VALUE, Integer.MAX_VALUE}) {
            refused(house, "bundle of length " + bad, ARGUMENT, () -> house.bundle('h', bad, 40, 100));
        }
        for (int bad : new int[] {-1, 100, Integer.MIN_VALUE, Integer.MAX_VALUE}) {
            refused(house, "bundle of colour " + bad, ARGUMENT, () -> house.bundle('h', 30, bad, 100));
        }
        for (int bad : new int[] {0, 501, -1, Integer.MIN_VALUE, Integer.MAX_VALUE}) {
            refused(house, "bundle of grams " + bad, ARGUMENT, () -> house.bundle('h', 30, 40, bad));
        }
        for (int i = 3; i < 20; i++) {
            due("bundle " + i, house.bundle('h', 30, 40, 100), i);
        }
        refused(house, "a 21st bundle", STATE, () -> house.bundle('h', 30, 40, 100));
        refused(house, "a wrong 21st bundle", ARGUMENT, () -> house.bundle('h', 30, 40, 0));
    }

    private static void mix() {
        Wighall house = new Wighall();
        house.bundle('h', 30, 40, 100);
        house.bundle('h', 35, 83, 50);
        house.bundle('h', 36, 10, 50);
        house.bundle('y', 30, 10, 500);
        due("mix(0, 1, 10, 30)", house.mix(0, 1, 10, 30), 4);
        due("the colour, cut", house.hair(4, 'c'), (40 * 10 + 83 * 30) / 40);
        due("the lesser length", house.hair(4, 'l'), 30);
        due("the grams", house.hair(4, 'g'), 40);
        due("what is left of the first", house.hair(0, 'g'), 90);
        due("what is left of the other", house.hair(1, 'g'), 20);
        refused(house, "mix(-1, 0, 1, 1)", INDEX, () -> house.mix(-1, 0, 1, 1));
        refused(house, "mix(5, 0, 1, 1)", INDEX, () -> house.mix(5, 0, 1, 1));
        refused(house, "mix(0, 5, 1, 1)", INDEX, () -> house.mix(0, 5, 1, 1));
        refused(house, "mix(0, -1, 0, 1)", INDEX, () -> house.mix(0, -1, 0, 1));
        refused(house, "mix(0, 0, 1, 1)", ARGUMENT, () -> house.mix(0, 0, 1, 1));
        refused(house, "mix(0, 1, 0, 1)", ARGUMENT, () -> house.mix(0, 1, 0, 1));
        refused(house, "mix(0, 1, 1, 0)", ARGUMENT, () -> house.mix(0, 1, 1, 0));
        refused(house, "mix(0, 1, -5, 10)", ARGUMENT, () -> house.mix(0, 1, -5, 10));
        refused(house, "mix(0, 3, 1, 500)", ARGUMENT, () -> house.mix(0, 3, 1, 500));
        refused(house, "grams that wrap around", ARGUMENT,
                () -> house.mix(0, 1, Integer.MAX_VALUE, Integer.MAX_VALUE));
        refused(house, "unlike origins", UNSUPPORTED, () -> house.mix(0, 3, 1, 499));
        refused(house, "lengths 6 apart", UNSUPPORTED, () -> house.mix(0, 2, 1, 1));
        refused(house, "lengths 6 apart, turned round", UNSUPPORTED, () -> house.mix(2, 0, 1, 1));
        refused(house, "not as much of the first", UNSUPPORTED, () -> house.mix(0, 1, 91, 1));
        refused(house, "not as much of the other", UNSUPPORTED, () -> house.mix(0, 1, 1, 21));
        due("all of both", house.mix(1, 0, 20, 90), 5);
        due("nothing is left", house.hair(0, 'g') + house.hair(1, 'g'), 0);
        due("the lesser length of the other", house.hair(5, 'l'), 30);
        mixBleached();
        Wighall full = new Wighall();
        fillBundles(full);
        refused(full, "mixing a 21st bundle", STATE, () -> full.mix(0, 1, 1, 1));
        refused(full, "not as much, for a 21st", UNSUPPORTED, () -> full.mix(0, 1, 101, 1));
    }

    private static void mixBleached() {
        Wighall house = new Wighall();
        house.bundle('h', 30, 0, 500);
        house.bundle('h', 30, 0, 500);
        house.bundle('s', 30, 0, 500);
        house.bundle('s', 30, 10, 500);
        house.bleach(1);
        due("mix(0, 1, 250, 250)", house.mix(0, 1, 250, 250), 4);
        due("bleached as the other", house.hair(4, 'b'), 1);
        house.bleach(1);
        house.mix(1, 4, 1, 1);
        due("bleached as the first", house.hair(5, 'b'), 2);
        refused(house, "bleach(5)", UNSUPPORTED, () -> house.bleach(5));
        house.mix(2, 3, 1, 1);
        due("made hair is mixed", house.hair(6, 'c'), 5);
        refused(house, "bleach(6)", UNSUPPORTED, () -> house.bleach(6));
    }

    private static void bleach() {
        Wighall house = new Wighall();
        house.bundle('h', 30, 40, 100);
        house.bundle('y', 30, 70, 100);
        house.bundle('s', 30, 40, 100);
        due("bleach(0)", house.bleach(0), 60);
        due("bleach(0)", house.bleach(0), 80);
        refused(house, "bleach(0)", UNSUPPORTED, () -> house.bleach(0));
        due("bleach(1)", house.bleach(1), 90);
        due("bleach(1)", house.bleach(1), 99);
        refused(house, "bleach(2)", UNSUPPORTED, () -> house.bleach(2));
        refused(house, "bleach(3)", INDEX, () -> house.bleach(3));
        refused(house, "bleach(-1)", INDEX, () -> house.bleach(-1));
    }

    private static void hair() {
        Wighall house = houseWithPieces();
        due("hair(1, 'l')", house.hair(1, 'l'), 20);
        due("hair(1, 'c')", house.hair(1, 'c'), 10);
        due("hair(1, 'g')", house.hair(1, 'g'), 500);
        due("hair(1, 'b')", house.hair(1, 'b'), 0);
        house.bleach(1);
        due("hair(1, 'b')", house.hair(1, 'b'), 1);
        due("hair(1, 'c')", house.hair(1, 'c'), 30);
        house.knot(0, 0, 1, 1, 9);
        due("hair(1, 'g')", house.hair(1, 'g'), 499);
        refused(house, "hair(4, 'l')", INDEX, () -> house.hair(4, 'l'));
        refused(house, "hair(-1, 'q')", INDEX, () -> house.hair(-1, 'q'));
        refused(house, "hair(0, 'q')", ARGUMENT, () -> house.hair(0, 'q'));
    }

    private static void piece() {
        Wighall house = new Wighall();
        due("piece('w', 500)", house.piece('w', 500), 0);
        due("piece('w', 620)", house.piece('w', 620), 1);
        due("piece('b', -7)", house.piece('b', -7), 2);
        due("piece('b', 700)", house.piece('b', 700), 3);
        due("of(1, 'z')", house.of(1, 'z'), 620);
        due("of(3, 'z')", house.of(3, 'z'), 0);
        refused(house, "piece('q', 560)", ARGUMENT, () -> house.piece('q', 560));
        refused(house, "piece('w', 499)", ARGUMENT, () -> house.piece('w', 499));
        refused(house, "piece('w', 621)", ARGUMENT, () -> house.piece('w', 621));
        for (int i = 4; i < 12; i++) {
            due("piece " + i, house.piece('w', 560), i);
        }
        refused(house, "a 13th piece", STATE, () -> house.piece('b', 0));
        refused(house, "a wrong 13th piece", ARGUMENT, () -> house.piece('w', 0));
    }

    private static void crown() {
        Wighall house = houseWithPieces();
        due("crown(0, 5, 0)", house.crown(0, 5, 0), 20);
        due("crown(0, 0, 5)", house.crown(0, 0, 5), 5);
        due("crown(0, 0, 0)", house.crown(0, 0, 0), 30);
        due("crown(1, 5, 5)", house.crown(1, 5, 5), 20);
        due("flow(1, 0, 5)", house.flow(1, 0, 5), 6);
        due("flow(0, 0, 0)", house.flow(0, 0, 0), 4);
        for (int bad : new int[] {-1, 6, Integer.MIN_VALUE, Integer.MAX_VALUE}) {
            refused(house, "crown at x " + bad, ARGUMENT, () -> house.crown(0, bad, 0));
            refused(house, "crown at y " + bad, ARGUMENT, () -> house.crown(0, 0, bad));
            refused(house, "crown of piece " + bad, INDEX, () -> house.crown(bad, 0, 9));
        }
    }

    private static void turn() {
        Wighall house = houseWithPieces();
        due("turn(0, 2, 0, 'l')", house.turn(0, 2, 0, 'l'), '-');
        due("flow(0, 2, 0)", house.flow(0, 2, 0), 7);
        due("turn(0, 2, 0, 'r')", house.turn(0, 2, 0, 'r'), 'l');
        due("flow(0, 2, 0)", house.flow(0, 2, 0), 1);
        due("turn(0, 2, 0, 'r')", house.turn(0, 2, 0, 'r'), 'r');
        due("flow(0, 2, 0)", house.flow(0, 2, 0), 1);
        due("turn(0, 2, 0, '-')", house.turn(0, 2, 0, '-'), 'r');
        due("flow(0, 2, 0)", house.flow(0, 2, 0), 0);
        due("a beard's turn at any y", house.turn(1, 0, 5, 'r'), '-');
        due("and again", house.turn(1, 0, 5, 'r'), 'r');
        house.turn(0, 3, 3, 'r');
        house.knot(0, 3, 3, 0, 1);
        refused(house, "turn with knots", UNSUPPORTED, () -> house.turn(0, 3, 3, 'l'));
        house.unknot(0, 3, 3);
        due("the turn stays as knots go", house.turn(0, 3, 3, 'l'), 'r');
        refused(house, "turn(3, 0, 0, 'q')", INDEX, () -> house.turn(3, 0, 0, 'q'));
        refused(house, "turn(-1, 0, 0, 'r')", INDEX, () -> house.turn(-1, 0, 0, 'r'));
        refused(house, "turn(0, 6, 0, 'r')", ARGUMENT, () -> house.turn(0, 6, 0, 'r'));
        refused(house, "turn(0, 0, -1, 'r')", ARGUMENT, () -> house.turn(0, 0, -1, 'r'));
        refused(house, "turn(0, 0, 0, 'q')", ARGUMENT, () -> house.turn(0, 0, 0, 'q'));
        house.hire(0, 1);
        due("what is out can be turned", house.turn(0, 5, 5, 'l'), '-');
    }

    private static void flow() {
        Wighall house = houseWithPieces();
        int[] flows = {
            7, 0, 0, 0, 1, 1,
            7, 7, 0, 1, 1, 1,
            7, 7, 0, 1, 1, 2,
            6, 6, 4, 2, 2, 2,
            5, 5, 4, 3, 3, 2,
            5, 5, 4, 3, 3, 3,
        };
        // One place across for three along is straight, one for two not yet.
        for (int y = 0; y < 6; y++) {
            for (int x = 0; x < 6; x++) {
                due("flow(0, " + x + ", " + y + ")", house.flow(0, x, y), flows[6 * y + x]);
                due("flow(1, " + x + ", " + y + ")", house.flow(1, x, y), flows[6 * y + x]);
            }
        }
        house.crown(0, 3, 3);
        due("a flow of 0", house.flow(0, 3, 0), 0);
        house.turn(0, 3, 0, 'l');
        due("an eighth to the left of 0", house.flow(0, 3, 0), 7);
        due("a flow of 7", house.flow(0, 1, 1), 7);
        house.turn(0, 1, 1, 'r');
        due("an eighth to the right of 7", house.flow(0, 1, 1), 0);
        house.turn(0, 3, 3, 'r');
        due("a turn at the crown", house.flow(0, 3, 3), 5);
        house.knot(0, 4, 4, 0, 1);
        house.crown(0, 5, 5);
        due("the flow behind a new crown", house.flow(0, 4, 4), 7);
        due("what is knotted stays", house.place(0, 4, 4, 'd'), 3);
        refused(house, "flow(3, 0, 0)", INDEX, () -> house.flow(3, 0, 9));
        refused(house, "flow(-1, 0, 0)", INDEX, () -> house.flow(-1, 0, 0));
        refused(house, "flow(0, -1, 0)", ARGUMENT, () -> house.flow(0, -1, 0));
        refused(house, "flow(0, 0, 6)", ARGUMENT, () -> house.flow(0, 0, 6));
    }

    private static void knot() {
        Wighall house = houseWithPieces();
        due("knot(0, 2, 1, 0, 5)", house.knot(0, 2, 1, 0, 5), 5);
        due("knot(0, 2, 1, 1, 4)", house.knot(0, 2, 1, 1, 4), 9);
        refused(house, "a 10th knot", UNSUPPORTED, () -> house.knot(0, 2, 1, 0, 1));
        due("one gram each", house.hair(0, 'g') * 1000 + house.hair(1, 'g'), 499499);
        due("knot(0, 0, 0, 0, 3)", house.knot(0, 0, 0, 0, 3), 3);
        refused(house, "a 4th knot at the front", UNSUPPORTED, () -> house.knot(0, 0, 0, 0, 1));
        refused(house, "4 knots at the front", UNSUPPORTED, () -> house.knot(0, 1, 0, 0, 4));
        due("9 knots at a beard's front", house.knot(1, 0, 0, 0, 9), 9);
        due("a beard's second row", house.knot(1, 5, 1, 0, 9), 9);
        refused(house, "a beard's third row", UNSUPPORTED, () -> house.knot(1, 0, 2, 0, 1));
        knotBundles(house);
        refused(house, "knot(3, 0, 1, 0, 1)", INDEX, () -> house.knot(3, 0, 1, 0, 1));
        refused(house, "knot(-1, 9, 1, 0, 0)", INDEX, () -> house.knot(-1, 9, 1, 0, 0));
        refused(house, "knot(0, 0, 1, 6, 1)", INDEX, () -> house.knot(0, 0, 1, 6, 1));
        refused(house, "knot(0, 9, 1, -1, 0)", INDEX, () -> house.knot(0, 9, 1, -1, 0));
        refused(house, "knot(0, 6, 1, 0, 1)", ARGUMENT, () -> house.knot(0, 6, 1, 0, 1));
        refused(house, "knot(0, 0, -1, 0, 1)", ARGUMENT, () -> house.knot(0, 0, -1, 0, 1));
        refused(house, "knot(1, 0, 2, 0, 0)", ARGUMENT, () -> house.knot(1, 0, 2, 0, 0));
        refused(house, "knot(0, 0, 1, 0, 10)", ARGUMENT, () -> house.knot(0, 0, 1, 0, 10));
        refused(house, "knots without end", ARGUMENT, () -> house.knot(0, 0, 1, 0, Integer.MAX_VALUE));
        house.box('w');
        house.store(0, 0, 0);
        refused(house, "knot in a box", UNSUPPORTED, () -> house.knot(0, 0, 1, 0, 1));
        house.unbox(0);
        house.hire(0, 1);
        refused(house, "knot on hire", UNSUPPORTED, () -> house.knot(0, 0, 1, 0, 1));
        house.back(0);
        due("knot when it is back", house.knot(0, 0, 1, 0, 1), 1);
    }

    private static void knotBundles(Wighall house) {
        house.knot(0, 5, 5, 0, 1);
        house.knot(0, 5, 5, 1, 1);
        house.knot(0, 5, 5, 2, 1);
        refused(house, "hair of a 4th bundle", UNSUPPORTED, () -> house.knot(0, 5, 5, 3, 1));
        due("one of the three again", house.knot(0, 5, 5, 1, 2), 5);
        due("another of the three", house.knot(0, 5, 5, 2, 1), 6);
        house.unknot(0, 5, 5);
        due("the 4th one, on a place that was emptied", house.knot(0, 5, 5, 3, 1), 1);
        int scarce = house.bundle('h', 30, 40, 1);
        due("all of a gram", house.knot(0, 4, 5, scarce, 9), 9);
        refused(house, "hair of no grams", UNSUPPORTED, () -> house.knot(0, 3, 5, scarce, 1));
        house.bundle('h', 30, 40, 1);
        due("a gram that is begun", house.knot(0, 3, 5, scarce + 1, 1), 1);
        refused(house, "is gone", UNSUPPORTED, () -> house.knot(0, 3, 5, scarce + 1, 1));
    }

    private static void unknot() {
        Wighall house = houseWithPieces();
        house.turn(0, 3, 3, 'l');
        house.knot(0, 3, 3, 0, 4);
        house.knot(0, 3, 3, 1, 3);
        due("unknot(0, 3, 3)", house.unknot(0, 3, 3), 7);
        due("the hair is lost", house.hair(0, 'g'), 499);
        due("the minutes were spent", house.of(0, 'm'), 7);
        due("the knots are gone", house.of(0, 'k'), 0);
        refused(house, "unknot(0, 3, 3)", UNSUPPORTED, () -> house.unknot(0, 3, 3));
        house.crown(0, 5, 5);
        house.knot(0, 3, 3, 3, 1);
        due("the flow is that of now, with the turn", house.place(0, 3, 3, 'd'), 6);
        due("the length is as at first", house.place(0, 3, 3, 'l'), 50);
        due("the colour is as at first", house.place(0, 3, 3, 'c'), 3);
        due("the bundles are as at first", house.place(0, 3, 3, 'b'), 1);
        refused(house, "unknot(3, 0, 0)", INDEX, () -> house.unknot(3, 9, 0));
        refused(house, "unknot(-1, 0, 0)", INDEX, () -> house.unknot(-1, 0, 0));
        refused(house, "unknot(0, 6, 0)", ARGUMENT, () -> house.unknot(0, 6, 0));
        refused(house, "unknot(0, 0, -1)", ARGUMENT, () -> house.unknot(0, 0, -1));
        refused(house, "a beard's third row", UNSUPPORTED, () -> house.unknot(1, 0, 2));
        house.hire(0, 1);
        refused(house, "unknot on hire", UNSUPPORTED, () -> house.unknot(0, 3, 3));
        house.back(0);
        house.box('w');
        house.store(0, 0, 0);
        refused(house, "unknot in a box", UNSUPPORTED, () -> house.unknot(0, 3, 3));
        house.unbox(0);
        due("unknot when it is back", house.unknot(0, 3, 3), 1);
    }

    private static void cut() {
        Wighall house = houseWithPieces();
        house.knot(0, 3, 3, 0, 4);
        due("cut(0, 3, 3, 60)", house.cut(0, 3, 3, 60), 30);
        due("nothing grows", house.cut(0, 3, 3, 25), 30);
        due("cut(0, 3, 3, 25)", house.cut(0, 3, 3, 1), 25);
        due("cut(0, 3, 3, 1)", house.place(0, 3, 3, 'l'), 1);
        house.knot(0, 3, 3, 3, 1);
        due("it cannot be undone", house.place(0, 3, 3, 'l'), 1);
        due("the hair of the bundle is not cut", house.hair(0, 'l'), 30);
        refused(house, "cut(3, 0, 0, 5)", INDEX, () -> house.cut(3, 9, 0, 5));
        refused(house, "cut(-1, 0, 0, 5)", INDEX, () -> house.cut(-1, 0, 0, 5));
        refused(house, "cut(0, 6, 0, 5)", ARGUMENT, () -> house.cut(0, 6, 0, 5));
        refused(house, "cut(0, 0, -1, 5)", ARGUMENT, () -> house.cut(0, 0, -1, 5));
        refused(house, "cut(0, 0, 0, 0)", ARGUMENT, () -> house.cut(0, 0, 0, 0));
        refused(house, "cut(0, 3, 3, 61)", ARGUMENT, () -> house.cut(0, 3, 3, 61));
        refused(house, "cut without knots", UNSUPPORTED, () -> house.cut(0, 0, 0, 5));
        house.hire(0, 1);
        refused(house, "cut on hire", UNSUPPORTED, () -> house.cut(0, 3, 3, 5));
        house.back(0);
        house.box('w');
        house.store(0, 0, 0);
        refused(house, "cut in a box", UNSUPPORTED, () -> house.cut(0, 3, 3, 5));
        house.unbox(0);
        due("cut when it is back", house.cut(0, 3, 3, 5), 1);
    }

    private static void place() {
        Wighall house = houseWithPieces();
        house.turn(0, 2, 1, 'r');
        house.knot(0, 2, 1, 0, 5);
        due("'k'", house.place(0, 2, 1, 'k'), 5);
        due("'c'", house.place(0, 2, 1, 'c'), 40);
        due("'l'", house.place(0, 2, 1, 'l'), 30);
        due("'d'", house.place(0, 2, 1, 'd'), 1);
        due("'b'", house.place(0, 2, 1, 'b'), 1);
        house.bleach(0);
        house.crown(0, 0, 0);
        due("the colour stays", house.place(0, 2, 1, 'c'), 40);
        house.knot(0, 2, 1, 0, 2);
        due("the mean of all knots, cut", house.place(0, 2, 1, 'c'), (5 * 40 + 2 * 60) / 7);
        due("the same bundle", house.place(0, 2, 1, 'b'), 1);
        house.knot(0, 2, 1, 3, 1);
        due("another bundle", house.place(0, 2, 1, 'b'), 2);
        due("the shortest hair", house.place(0, 2, 1, 'l'), 30);
        house.knot(0, 2, 1, 1, 1);
        due("shorter hair", house.place(0, 2, 1, 'l'), 20);
        due("it lies as at the first knot", house.place(0, 2, 1, 'd'), 1);
        due("the mean of all knots, cut", house.place(0, 2, 1, 'c'), (5 * 40 + 2 * 60 + 3 + 10) / 9);
        refused(house, "place(3, 0, 0, 'k')", INDEX, () -> house.place(3, 9, 0, 'k'));
        refused(house, "place(-1, 0, 0, 'k')", INDEX, () -> house.place(-1, 0, 0, 'k'));
        refused(house, "place(0, -1, 0, 'k')", ARGUMENT, () -> house.place(0, -1, 0, 'k'));
        refused(house, "place(0, 0, 6, 'k')", ARGUMENT, () -> house.place(0, 0, 6, 'k'));
        refused(house, "place(0, 0, 0, 'q')", ARGUMENT, () -> house.place(0, 0, 0, 'q'));
        refused(house, "place(0, 0, 0, 'k')", NoSuchElementException.class, () -> house.place(0, 0, 0, 'k'));
        refused(house, "place(1, 0, 5, 'd')", NoSuchElementException.class, () -> house.place(1, 0, 5, 'd'));
    }

    private static void of() {
        Wighall house = houseWithPieces();
        due("no knots", house.of(0, 'k'), 0);
        due("no minutes", house.of(0, 'm'), 0);
        due("not set", house.of(0, 's'), 0);
        due("no colour", house.of(0, 'c'), -1);
        due("the size", house.of(0, 'z'), 560);
        due("no size", house.of(1, 'z'), 0);
        house.knot(0, 2, 0, 0, 3);
        due("two minutes each at the front", house.of(0, 'm'), 6);
        house.knot(0, 2, 1, 0, 2);
        house.knot(0, 2, 1, 3, 1);
        due("one minute each behind it", house.of(0, 'm'), 9);
        due("the knots", house.of(0, 'k'), 6);
        due("the mean of what is cut already", house.of(0, 'c'), (40 + 83 / 3) / 2);
        house.knot(1, 0, 0, 1, 2);
        house.knot(1, 0, 1, 0, 3);
        due("a beard's minutes", house.of(1, 'm'), 7);
        due("a beard's colour", house.of(1, 'c'), 25);
        due("a beard is not set", house.of(1, 's'), 0);
        house.set(0);
        due("set", house.of(0, 's'), 100);
        house.unknot(0, 2, 1);
        due("the minutes so far", house.of(0, 'm'), 9);
        due("the colour of the places with knots", house.of(0, 'c'), 40);
        refused(house, "of(3, 'k')", INDEX, () -> house.of(3, 'q'));
        refused(house, "of(-1, 'k')", INDEX, () -> house.of(-1, 'k'));
        refused(house, "of(0, 'q')", ARGUMENT, () -> house.of(0, 'q'));
    }

    private static void isFull() {
        Wighall house = houseWithPieces();
        due("without knots", house.isFull(0), false);
        fill(house, 0, 6, 0, 1);
        due("a knot in each place", house.isFull(0), true);
        house.unknot(0, 5, 5);
        due("one is missing", house.isFull(0), false);
        fill(house, 1, 2, 0, 1);
        due("a beard of two rows", house.isFull(1), true);
        house.unknot(1, 0, 1);
        due("a beard with one missing", house.isFull(1), false);
        refused(house, "isFull(3)", INDEX, () -> house.isFull(3));
        refused(house, "isFull(-1)", INDEX, () -> house.isFull(-1));
    }

    private static void isEven() {
        Wighall house = houseWithPieces();
        due("a head without knots", house.isEven(0), true);
        due("a beard without knots", house.isEven(1), true);
        fill(house, 0, 6, 0, 3);
        due("all alike", house.isEven(0), true);
        house.unknot(0, 5, 5);
        due("none in the last place, beside 3", house.isEven(0), true);
        house.knot(0, 5, 4, 0, 1);
        due("none in the last place, behind 4", house.isEven(0), false);
        house.knot(0, 5, 5, 0, 1);
        due("1 in the last place, behind 4", house.isEven(0), true);
        house.knot(0, 5, 5, 0, 5);
        due("3 more in the last place than at its left", house.isEven(0), true);
        house.knot(0, 5, 5, 0, 1);
        due("4 more in the last place than at its left", house.isEven(0), false);
        house.knot(0, 4, 5, 0, 1);
        due("3 more than both beside it", house.isEven(0), true);
        house.unknot(0, 0, 0);
        due("a front place without knots, beside 3", house.isEven(0), true);
        house.knot(0, 0, 1, 0, 1);
        due("a front place without knots, ahead of 4", house.isEven(0), false);
        house.knot(0, 0, 0, 0, 1);
        due("a front place with one knot, ahead of 4", house.isEven(0), true);
        refused(house, "isEven(3)", INDEX, () -> house.isEven(3));
        refused(house, "isEven(-1)", INDEX, () -> house.isEven(-1));
        isEvenAmongNone();
        isEvenOnEachSide();
        isEvenOfBeards();
    }

    private static void isEvenAmongNone() {
        int[][] places = {{0, 1}, {2, 2}, {5, 3}, {0, 5}, {5, 5}};
        for (int[] at : places) {
            Wighall house = houseWithPieces();
            String where = at[0] + ", " + at[1];
            house.knot(0, at[0], at[1], 0, 3);
            due("3 among none at " + where, house.isEven(0), true);
            house.knot(0, at[0], at[1], 0, 1);
            due("4 among none at " + where, house.isEven(0), false);
            house.unknot(0, at[0], at[1]);
            due("taken out again at " + where, house.isEven(0), true);
        }
    }

    private static void isEvenOnEachSide() {
        Wighall house = houseWithPieces();
        int[][] sides = {{1, 2}, {3, 2}, {2, 1}, {2, 3}};
        house.knot(0, 2, 2, 0, 4);
        for (int[] side : sides) {
            due("4 beside none at " + side[0] + ", " + side[1], house.isEven(0), false);
            house.knot(0, side[0], side[1], 0, 1);
        }
        due("4 beside 1 on each side, none at the corners", house.isEven(0), true);
        for (int[] side : sides) {
            house.unknot(0, side[0], side[1]);
            due("4 beside none at " + side[0] + ", " + side[1] + " alone", house.isEven(0), false);
            house.knot(0, side[0], side[1], 0, 1);
        }
    }

    /** What lies behind the two rows of a beard cannot be knotted, and is not compared. */
    private static void isEvenOfBeards() {
        Wighall house = houseWithPieces();
        house.knot(1, 0, 1, 0, 3);
        due("a beard with 3 beside none", house.isEven(1), true);
        house.knot(1, 0, 1, 0, 1);
        due("a beard with 4 beside none", house.isEven(1), false);
        house.unknot(1, 0, 1);
        fill(house, 1, 2, 0, 5);
        due("a beard of two rows", house.isEven(1), true);
        house.knot(1, 0, 1, 0, 4);
        due("a beard with 4 more at the left", house.isEven(1), false);
        house.unknot(1, 0, 1);
        due("a beard with none beside 5", house.isEven(1), false);
        house.knot(1, 0, 1, 0, 2);
        due("a beard with 2 beside 5", house.isEven(1), true);
    }

    private static void set() {
        Wighall house = houseWithPieces();
        refused(house, "a head without knots", UNSUPPORTED, () -> house.set(0));
        house.knot(0, 3, 3, 0, 1);
        house.knot(1, 0, 0, 0, 1);
        due("set(0)", house.set(0), 0);
        due("set(0)", house.set(0), 100);
        due("of(0, 's')", house.of(0, 's'), 100);
        refused(house, "a beard", UNSUPPORTED, () -> house.set(1));
        refused(house, "set(3)", INDEX, () -> house.set(3));
        refused(house, "set(-1)", INDEX, () -> house.set(-1));
        house.hire(0, 1);
        refused(house, "set on hire", UNSUPPORTED, () -> house.set(0));
        house.back(0);
        house.box('w');
        house.store(0, 0, 0);
        refused(house, "set in a box", UNSUPPORTED, () -> house.set(0));
    }

    private static void person() {
        Wighall house = new Wighall();
        due("person(500, 0, 0)", house.person(500, 0, 0), 0);
        due("person(620, 9, 15)", house.person(620, 9, 15), 1);
        due("not known at first", house.barred(1), 0);
        for (int bad : new int[] {499, 621, 0, Integer.MIN_VALUE, Integer.MAX_VALUE}) {
            refused(house, "a measure of " + bad, ARGUMENT, () -> house.person(bad, 0, 0));
        }
        for (int bad : new int[] {-1, 10, Integer.MIN_VALUE, Integer.MAX_VALUE}) {
            refused(house, "sweat of " + bad, ARGUMENT, () -> house.person(560, bad, 0));
        }
        for (int bad : new int[] {-1, 16, Integer.MIN_VALUE, Integer.MAX_VALUE}) {
            refused(house, "glues of " + bad, ARGUMENT, () -> house.person(560, 0, bad));
        }
        for (int i = 2; i < 10; i++) {
            due("person " + i, house.person(560, 0, 0), i);
        }
        refused(house, "an 11th person", STATE, () -> house.person(560, 0, 0));
        refused(house, "a wrong 11th person", ARGUMENT, () -> house.person(560, 0, 16));
    }

    private static void tryGlue() {
        Wighall house = new Wighall();
        house.person(560, 0, 9);
        due("glue 1", house.tryGlue(0, 1), true);
        due("glue 1 again", house.tryGlue(0, 1), true);
        due("glue 0", house.tryGlue(0, 0), false);
        refused(house, "glue 0, known", UNSUPPORTED, () -> house.tryGlue(0, 0));
        due("glue 3", house.tryGlue(0, 3), false);
        refused(house, "glue 3, known", UNSUPPORTED, () -> house.tryGlue(0, 3));
        due("glue 2", house.tryGlue(0, 2), true);
        refused(house, "person 1", INDEX, () -> house.tryGlue(1, 9));
        refused(house, "person -1", INDEX, () -> house.tryGlue(-1, 0));
        refused(house, "glue 4", ARGUMENT, () -> house.tryGlue(0, 4));
        refused(house, "glue -1", ARGUMENT, () -> house.tryGlue(0, -1));
        refused(house, "glue 32", ARGUMENT, () -> house.tryGlue(0, 32));
    }

    private static void barred() {
        Wighall house = new Wighall();
        house.person(560, 0, 10);
        house.person(560, 0, 15);
        due("nothing is known", house.barred(0), 0);
        house.tryGlue(0, 0);
        due("what is borne is not barred", house.barred(0), 0);
        house.tryGlue(0, 3);
        due("barred(0)", house.barred(0), 8);
        house.tryGlue(0, 1);
        due("barred(0)", house.barred(0), 10);
        due("nothing is known of the other", house.barred(1), 0);
        refused(house, "barred(2)", INDEX, () -> house.barred(2));
        refused(house, "barred(-1)", INDEX, () -> house.barred(-1));
    }

    private static void fits() {
        Wighall house = houseWithPieces();
        int[] measures = {549, 550, 560, 570, 571};
        for (int i = 0; i < measures.length; i++) {
            house.person(measures[i], 0, 0);
            due("560 on " + measures[i], house.fits(0, i), i >= 1 && i <= 3);
            due("a beard on " + measures[i], house.fits(1, i), true);
        }
        refused(house, "fits(3, 0)", INDEX, () -> house.fits(3, 0));
        refused(house, "fits(-1, 0)", INDEX, () -> house.fits(-1, 0));
        refused(house, "fits(0, 5)", INDEX, () -> house.fits(0, 5));
        refused(house, "fits(1, -1)", INDEX, () -> house.fits(1, -1));
    }

    private static void look() {
        Wighall house = houseWithPeople();
        house.person(540, 0, 2);
        due("bare", house.look(0, -1, -1, 99, 0, 0), 0);
        due("head and beard", house.look(0, 0, 1, 3, 5, 99), 1);
        due("a glue that is not known yet", house.look(2, -1, 1, 1, 0, 0), 2);
        refused(house, "person 3", INDEX, () -> house.look(3, -1, -1, 0, 9, 0));
        refused(house, "person -1", INDEX, () -> house.look(-1, -1, -1, 0, 0, 0));
        refused(house, "head 3", INDEX, () -> house.look(0, 3, -1, 0, 9, 0));
        refused(house, "head -2", INDEX, () -> house.look(0, -2, -1, 0, 0, 0));
        refused(house, "beard 3", INDEX, () -> house.look(0, -1, 3, 9, 0, 0));
        refused(house, "beard -2", INDEX, () -> house.look(0, -1, -2, 0, 0, 0));
        refused(house, "glue 4", ARGUMENT, () -> house.look(0, 1, 1, 4, 0, 0));
        refused(house, "glue -1", ARGUMENT, () -> house.look(0, -1, 1, -1, 0, 0));
        refused(house, "glue 33", ARGUMENT, () -> house.look(0, -1, 1, 33, 0, 0));
        refused(house, "layers 6", ARGUMENT, () -> house.look(0, 1, -1, 0, 6, 0));
        refused(house, "layers -1", ARGUMENT, () -> house.look(0, -1, -1, 0, -1, 0));
        refused(house, "day 100", ARGUMENT, () -> house.look(0, -1, -1, 0, 0, 100));
        refused(house, "day -1", ARGUMENT, () -> house.look(0, -1, -1, 0, 0, -1));
        refused(house, "a head that does not fit", UNSUPPORTED, () -> house.look(2, 0, -1, 0, 0, 0));
        refused(house, "a beard as a head", UNSUPPORTED, () -> house.look(0, 1, -1, 0, 0, 0));
        refused(house, "a head as a beard", UNSUPPORTED, () -> house.look(0, -1, 0, 0, 0, 0));
        lookAway(house);
        house.tryGlue(2, 1);
        refused(house, "a glue that is barred", UNSUPPORTED, () -> house.look(2, -1, 1, 1, 0, 0));
        due("a barred glue without a beard", house.look(2, -1, -1, 1, 0, 0), 3);
        due("another glue", house.look(2, -1, 1, 0, 0, 0), 4);
        for (int i = 5; i < 24; i++) {
            due("look " + i, house.look(1, 0, 1, 0, 0, i), i);
        }
        refused(house, "a 25th look", STATE, () -> house.look(0, 0, 1, 0, 0, 0));
        refused(house, "a refused 25th look", UNSUPPORTED, () -> house.look(0, 1, -1, 0, 0, 0));
    }

    private static void lookAway(Wighall house) {
        house.box('w');
        house.box('b');
        house.store(0, 0, 0);
        refused(house, "a head in a box", UNSUPPORTED, () -> house.look(0, 0, -1, 0, 0, 0));
        house.store(1, 0, 1);
        refused(house, "a beard in a box", UNSUPPORTED, () -> house.look(0, -1, 1, 0, 0, 0));
        house.unbox(0);
        house.unbox(1);
        house.hire(0, 1);
        refused(house, "a head on hire", UNSUPPORTED, () -> house.look(0, 0, -1, 0, 0, 0));
        house.hire(1, 1);
        refused(house, "a beard on hire", UNSUPPORTED, () -> house.look(0, -1, 1, 0, 0, 0));
        house.back(0);
        house.back(1);
    }

    private static void seconds() {
        Wighall house = houseWithPeople();
        house.piece('b', 0);
        house.look(0, -1, -1, 0, 0, 0);
        house.look(0, 0, -1, 0, 0, 5);
        house.look(0, 2, -1, 0, 1, 0);
        house.look(0, 0, 1, 0, 0, 0);
        house.look(0, 0, 1, 2, 0, 0);
        house.look(0, 2, 3, 1, 5, 0);
        house.look(0, -1, -1, 3, 0, 0);
        house.look(1, 0, -1, 0, 0, 0);
        due("a look to itself", house.seconds(5, 5), 0);
        due("none to a head", house.seconds(0, 1), 40);
        due("a head to none", house.seconds(1, 0), 40);
        due("a head to another, and a layer", house.seconds(1, 2), 65);
        due("none to a beard", house.seconds(1, 3), 60);
        due("a beard to none", house.seconds(3, 1), 60);
        due("the same beard, another glue", house.seconds(3, 4), 60);
        due("another beard and glue, once", house.seconds(4, 5), 40 + 60 + 125);
        due("layers less", house.seconds(5, 2), 60 + 100);
        due("a glue without a beard", house.seconds(0, 6), 0);
        due("no beard, of another glue", house.seconds(4, 6), 100);
        refused(house, "seconds(8, 0)", INDEX, () -> house.seconds(8, 0));
        refused(house, "seconds(-1, 7)", INDEX, () -> house.seconds(-1, 7));
        refused(house, "seconds(0, 8)", INDEX, () -> house.seconds(0, 8));
        refused(house, "seconds(0, -1)", INDEX, () -> house.seconds(0, -1));
        refused(house, "different people", ARGUMENT, () -> house.seconds(1, 7));
    }

    private static void scene() {
        Wighall house = new Wighall();
        due("scene(1, 0)", house.scene(1, 0), 0);
        due("scene(60, 1)", house.scene(60, 1), 1);
        refused(house, "0 minutes", ARGUMENT, () -> house.scene(0, 0));
        refused(house, "61 minutes", ARGUMENT, () -> house.scene(61, 0));
        refused(house, "wing -1", ARGUMENT, () -> house.scene(1, -1));
        refused(house, "wing 2", ARGUMENT, () -> house.scene(1, 2));
        for (int i = 2; i < 12; i++) {
            due("scene " + i, house.scene(30, 0), i);
        }
        refused(house, "a 13th scene", STATE, () -> house.scene(30, 0));
        refused(house, "a wrong 13th scene", ARGUMENT, () -> house.scene(30, 2));
    }

    private static void enter() {
        Wighall house = houseWithPeople();
        house.look(0, 0, -1, 0, 0, 0);
        house.look(1, 0, -1, 0, 0, 0);
        house.look(0, 2, -1, 0, 0, 0);
        house.scene(10, 0);
        house.scene(10, 0);
        due("enter(0, 0)", house.enter(0, 0), -1);
        due("another person", house.enter(0, 1), -1);
        due("another look", house.enter(0, 2), 0);
        due("the same look", house.enter(0, 2), 2);
        due("another scene", house.enter(1, 2), -1);
        refused(house, "enter(2, 0)", INDEX, () -> house.enter(2, 0));
        refused(house, "enter(-1, 0)", INDEX, () -> house.enter(-1, 0));
        refused(house, "enter(0, 3)", INDEX, () -> house.enter(0, 3));
        refused(house, "enter(0, -1)", INDEX, () -> house.enter(0, -1));
    }

    private static void exit() {
        Wighall house = houseWithPeople();
        house.look(0, 0, -1, 0, 0, 0);
        house.look(1, 0, -1, 0, 0, 0);
        house.scene(10, 0);
        house.enter(0, 0);
        house.enter(0, 1);
        due("exit(0, 0)", house.exit(0, 0), 0);
        due("exit(0, 0) again", house.exit(0, 0), -1);
        due("enter(0, 0)", house.enter(0, 0), -1);
        due("exit(0, 1)", house.exit(0, 1), 1);
        refused(house, "exit(1, 0)", INDEX, () -> house.exit(1, 0));
        refused(house, "exit(-1, 0)", INDEX, () -> house.exit(-1, 0));
        refused(house, "exit(0, 2)", INDEX, () -> house.exit(0, 2));
        refused(house, "exit(0, -1)", INDEX, () -> house.exit(0, -1));
    }

    private static void dresser() {
        Wighall house = new Wighall();
        due("dresser(1)", house.dresser(1), 0);
        refused(house, "dresser(-1)", ARGUMENT, () -> house.dresser(-1));
        refused(house, "dresser(2)", ARGUMENT, () -> house.dresser(2));
        for (int i = 1; i < 4; i++) {
            due("dresser " + i, house.dresser(0), i);
        }
        refused(house, "a 5th dresser", STATE, () -> house.dresser(0));
        refused(house, "a wrong 5th dresser", ARGUMENT, () -> house.dresser(2));
    }

    /** Person 0: bare in look 0, head 0 in look 1; person 1: bare in look 2, a layer in look 3, six in look 4. */
    private static Wighall houseWithLooks() {
        Wighall house = houseWithPeople();
        house.look(0, -1, -1, 0, 0, 0);
        house.look(0, 0, -1, 0, 0, 0);
        house.look(1, -1, -1, 0, 0, 0);
        house.look(1, -1, -1, 0, 1, 0);
        house.look(1, -1, 1, 0, 5, 0);
        return house;
    }

    private static void changes() {
        Wighall house = houseWithLooks();
        due("no scenes", house.changes(), 0);
        house.scene(10, 0);
        house.scene(1, 1);
        house.scene(2, 0);
        due("nobody in them", house.changes(), 0);
        house.enter(0, 0);
        house.enter(2, 1);
        due("one", house.changes(), 1);
        house.enter(1, 0);
        due("no change of 0 seconds", house.changes(), 1);
        due("it begins behind the nearest scene", house.change(0, 'a'), 1);
        house.enter(1, 1);
        due("another one", house.change(0, 'b'), 1);
        due("still one", house.changes(), 1);
        house.enter(0, 2);
        house.enter(1, 3);
        house.enter(2, 4);
        due("three", house.changes(), 3);
        house.exit(1, 1);
        due("two", house.changes(), 2);
        house.exit(2, 1);
        due("one", house.changes(), 1);
        refused(house, "one that is no more", INDEX, () -> house.change(1, 'p'));
    }

    private static void change() {
        Wighall house = houseWithLooks();
        house.scene(10, 0);
        house.scene(1, 1);
        house.scene(2, 0);
        house.enter(0, 0);
        house.enter(2, 1);
        due("without dressers", HouseView.changeRow(house), "p0s40t80a0b2d-1");
        house.dresser(1);
        due("the wing of the later scene", HouseView.changeRow(house), "p0s40t80a0b2d-1");
        house.dresser(0);
        due("with a dresser", HouseView.changeRow(house), "p0s40t80a0b2d1");
        house.enter(0, 2);
        house.enter(2, 3);
        due("one dresser for two", HouseView.changeRow(house), "p0s40t80a0b2d1 p1s25t80a0b2d-1");
        house.dresser(0);
        due("two dressers for two", HouseView.changeRow(house), "p0s40t80a0b2d1 p1s25t80a0b2d2");
        house.enter(1, 4);
        due("too long for the time", HouseView.changeRow(house), "p0s40t80a0b2d1 p1s185t20a0b1d-1 p1s160t20a1b2d-1");
        refused(house, "change(3, 'p')", INDEX, () -> house.change(3, 'q'));
        refused(house, "change(-1, 'p')", INDEX, () -> house.change(-1, 'p'));
        refused(house, "change(0, 'q')", ARGUMENT, () -> house.change(0, 'q'));
        refused(new Wighall(), "change(0, 'p')", INDEX, () -> new Wighall().change(0, 'p'));
        changeDressers();
    }

    private static void changeDressers() {
        Wighall house = new Wighall();
        for (int i = 0; i < 3; i++) {
            house.person(560, 0, 0);
            house.look(i, -1, -1, 0, 0, 0);
            house.look(i, -1, -1, 0, 4, 0);
        }
        house.scene(1, 0);
        house.scene(1, 0);
        house.scene(1, 0);
        house.scene(1, 0);
        house.dresser(0);
        house.enter(0, 0);
        house.enter(3, 1);
        due("100 seconds, beginning at 60", HouseView.changeRow(house), "p0s100t140a0b3d0");
        house.enter(1, 2);
        house.enter(3, 3);
        due("busy from 60 to 160", HouseView.changeRow(house), "p0s100t140a0b3d0 p1s100t80a1b3d-1");
        house.look(1, -1, -1, 0, 1, 0);
        house.look(2, -1, -1, 0, 1, 0);
        house.enter(3, 6);
        due("busy at 120 still", HouseView.changeRow(house), "p0s100t140a0b3d0 p1s25t80a1b3d-1");
        house.enter(2, 4);
        house.enter(3, 7);
        due("free at 180", HouseView.changeRow(house), "p0s100t140a0b3d0 p1s25t80a1b3d-1 p2s25t20a2b3d-1");
        house.exit(2, 2);
        house.enter(1, 4);
        due("late ones keep nobody busy", HouseView.changeRow(house),
                "p0s100t140a0b3d0 p1s25t80a1b3d-1 p2s25t80a1b3d-1");
        house.exit(0, 0);
        due("the lower person first", HouseView.changeRow(house), "p1s25t80a1b3d0 p2s25t80a1b3d-1");
        changeBackToBack();
        changeInLongScenes();
    }

    private static void changeBackToBack() {
        Wighall house = houseWithLooks();
        house.piece('b', 0);
        house.look(0, -1, 1, 0, 0, 0);
        house.scene(1, 0);
        house.scene(1, 1);
        house.scene(1, 1);
        house.scene(1, 1);
        house.dresser(1);
        house.enter(0, 0);
        house.enter(2, 5);
        house.enter(1, 2);
        house.enter(3, 3);
        due("free as the one ahead ends", HouseView.changeRow(house), "p0s60t80a0b2d0 p1s25t80a1b3d0");
        due("60 to 120, then 120 to 145", house.late(), 0);
        house.look(0, -1, 1, 0, 1, 0);
        house.enter(2, 6);
        due("longer than there is time", HouseView.changeRow(house), "p0s85t80a0b2d-1 p1s25t80a1b3d0");
        house.exit(2, 0);
        house.enter(3, 6);
        due("with more time it keeps the dresser", HouseView.changeRow(house), "p0s85t140a0b3d0 p1s25t80a1b3d-1");
        due("one is late", house.late(), 1);
    }

    private static void changeInLongScenes() {
        Wighall house = houseWithLooks();
        house.look(0, -1, -1, 0, 3, 0);
        house.scene(60, 0);
        house.scene(2, 0);
        house.scene(1, 0);
        house.dresser(0);
        house.enter(0, 0);
        house.enter(2, 5);
        house.enter(1, 2);
        house.enter(2, 3);
        due("75 seconds fit ahead of 120", HouseView.changeRow(house), "p0s75t140a0b2d0 p1s25t20a1b2d-1");
        house.scene(1, 0);
        house.exit(2, 1);
        house.enter(3, 3);
        due("free behind two minutes", HouseView.changeRow(house), "p0s75t140a0b2d0 p1s25t80a1b3d0");
    }

    private static void late() {
        Wighall house = houseWithLooks();
        house.scene(10, 0);
        house.scene(1, 0);
        house.scene(1, 0);
        house.enter(0, 0);
        house.enter(2, 1);
        house.enter(0, 2);
        house.enter(2, 3);
        due("nobody dresses", house.late(), 2);
        house.dresser(1);
        due("not at this wing", house.late(), 2);
        house.dresser(0);
        due("one dresser", house.late(), 1);
        house.dresser(0);
        due("two dressers", house.late(), 0);
        house.enter(1, 1);
        due("40 seconds of 20", house.late(), 1);
        due("no changes, nobody late", new Wighall().late(), 0);
        exactlyInTime();
    }

    private static void exactlyInTime() {
        Wighall house = new Wighall();
        house.piece('w', 560);
        house.person(560, 0, 0);
        house.look(0, -1, -1, 0, 0, 0);
        house.look(0, 0, -1, 0, 4, 0);
        house.look(0, -1, -1, 0, 2, 0);
        house.scene(1, 0);
        house.scene(2, 0);
        house.scene(1, 0);
        house.dresser(0);
        house.enter(0, 0);
        house.enter(2, 1);
        due("140 seconds of 140", house.late(), 0);
        house.enter(1, 2);
        due("50 and 90 seconds of 20", house.late(), 2);
    }

    private static void show() {
        Wighall empty = houseWithLooks();
        refused(empty, "a show without scenes", STATE, () -> empty.show());
        empty.scene(10, 0);
        due("a show with nobody", empty.show(), 0);
        showAway();
        showHeads();
        showMadeHeads();
        showBeards();
        showGlues();
        showShared();
        showLate();
    }

    private static void showAway() {
        Wighall house = houseWithPeople();
        house.look(0, 0, 1, 0, 0, 0);
        house.scene(10, 0);
        house.scene(10, 0);
        house.enter(1, 0);
        due("a head that is not set", house.show(), 1);
        house.box('w');
        house.box('b');
        house.store(0, 0, 0);
        refused(house, "a head in a box", UNSUPPORTED, () -> house.show());
        due("the lacks stay", HouseView.lackRow(house), "1d0");
        house.unbox(0);
        house.store(1, 0, 1);
        refused(house, "a beard in a box", UNSUPPORTED, () -> house.show());
        house.unbox(1);
        house.hire(1, 1);
        refused(house, "a beard on hire", UNSUPPORTED, () -> house.show());
        house.back(1);
        house.hire(0, 1);
        refused(house, "a head on hire", UNSUPPORTED, () -> house.show());
        house.exit(1, 0);
        due("nobody has it in a scene", house.show(), 0);
        house.enter(0, 0);
        refused(house, "in the first scene", UNSUPPORTED, () -> house.show());
    }

    private static void showHeads() {
        int[] losses = {1, 1, 1, 2, 2, 2, 3, 3, 3, 4};
        for (int sweat = 0; sweat <= 9; sweat++) {
            Wighall house = houseWithPieces();
            house.person(560, sweat, 0);
            house.knot(0, 3, 3, 0, 3);
            house.knot(0, 3, 3, 2, 2);
            house.set(0);
            house.look(0, 0, -1, 0, 0, 0);
            house.scene(11, 0);
            house.enter(0, 0);
            due("no lack at sweat " + sweat, house.show(), 0);
            due("the set at sweat " + sweat, house.of(0, 's'), 100 - 11 * losses[sweat]);
        }
        Wighall house = houseWithPeople();
        house.knot(0, 3, 3, 0, 3);
        house.set(0);
        house.look(0, 0, -1, 0, 0, 0);
        house.scene(60, 0);
        house.enter(0, 0);
        due("at 40 it holds", house.show(), 0);
        due("the set", house.of(0, 's'), 40);
        due("a set stays as it comes out of a show", house.show(), 1);
        due("0 at least", house.of(0, 's'), 0);
        due("it is down", HouseView.lackRow(house), "0d0");
        house.set(0);
        house.scene(1, 0);
        house.enter(1, 0);
        due("at 39 it is down", house.show(), 1);
        due("in the second scene", HouseView.lackRow(house), "1d0");
    }

    private static void showMadeHeads() {
        Wighall house = houseWithPeople();
        house.knot(0, 3, 3, 0, 3);
        house.knot(0, 3, 3, 2, 3);
        house.set(0);
        house.look(0, 0, -1, 0, 0, 0);
        house.scene(11, 0);
        house.enter(0, 0);
        house.show();
        due("half of it made: each second minute", house.of(0, 's'), 95);
        house.scene(1, 0);
        house.enter(1, 0);
        house.show();
        due("a scene of one minute has no second one", house.of(0, 's'), 90);
        house.knot(0, 4, 3, 0, 1);
        house.exit(1, 0);
        house.show();
        due("less than half of it made", house.of(0, 's'), 79);
        house.unknot(0, 3, 3);
        house.unknot(0, 4, 3);
        house.show();
        due("no knots", house.of(0, 's'), 74);
        house.knot(0, 3, 3, 0, 1);
        house.show();
        due("made hair that was taken out", house.of(0, 's'), 63);
        house.knot(0, 0, 0, 2, 1);
        house.show();
        due("made hair in the first place", house.of(0, 's'), 58);
        Wighall sweating = houseWithPieces();
        sweating.person(560, 9, 0);
        sweating.knot(0, 3, 3, 2, 1);
        sweating.set(0);
        sweating.look(0, 0, -1, 0, 0, 0);
        sweating.scene(11, 0);
        sweating.enter(0, 0);
        sweating.show();
        due("made, with sweat", sweating.of(0, 's'), 80);
    }

    private static void showBeards() {
        for (int sweat = 0; sweat <= 9; sweat++) {
            Wighall house = houseWithPieces();
            house.person(560, sweat, 0);
            house.look(0, -1, 1, 0, 0, 0);
            house.scene(60 - 5 * sweat, 0);
            house.enter(0, 0);
            due("it holds at sweat " + sweat, house.show(), 0);
            house.scene(1, 0);
            house.scene(1, 0);
            house.enter(1, 0);
            house.enter(2, 0);
            house.show();
            due("it is off at sweat " + sweat, HouseView.lackRow(house), "1o0 2o0");
        }
        Wighall house = houseWithPeople();
        house.piece('b', 0);
        house.look(0, -1, 1, 0, 0, 0);
        house.look(0, -1, 1, 1, 0, 0);
        house.look(0, -1, 3, 0, 0, 0);
        house.look(0, -1, -1, 0, 0, 0);
        house.look(0, -1, 1, 0, 5, 9);
        house.dresser(0);
        for (int i = 0; i < 5; i++) {
            house.scene(60, 0);
        }
        house.enter(0, 0);
        house.enter(4, 0);
        due("it goes on where the person was not in scenes", beardLacks(house), "4o0");
        house.enter(2, 0);
        due("in each scene behind", beardLacks(house), "2o0 4o0");
        house.enter(2, 1);
        due("another glue begins anew, and back", beardLacks(house), "");
        house.enter(2, 2);
        due("another beard begins anew, and back", beardLacks(house), "");
        house.enter(2, 3);
        due("none, and it begins anew", beardLacks(house), "");
        house.enter(2, 4);
        due("another look with the same beard and glue", beardLacks(house), "2o0 4o0");
        house.exit(2, 0);
        house.exit(4, 0);
        due("it begins anew in each show", beardLacks(house), "");
    }

    /** The lacks of a show but for those who are late. */
    private static String beardLacks(Wighall house) {
        house.show();
        return HouseView.lackRow(house).replaceAll("\\d+l\\d+ ?", "").trim();
    }

    private static void showGlues() {
        Wighall house = houseWithPieces();
        house.person(560, 0, 5);
        house.person(560, 0, 0);
        house.look(0, -1, 1, 2, 0, 0);
        house.look(0, -1, -1, 2, 0, 0);
        house.look(1, -1, 1, 2, 0, 0);
        house.scene(1, 0);
        house.scene(1, 0);
        house.enter(0, 1);
        due("a glue without a beard", house.show(), 0);
        house.enter(0, 0);
        house.enter(1, 0);
        due("a glue that is not borne", house.show(), 2);
        due("in each scene", HouseView.lackRow(house), "0g0 1g0");
        due("it is known", house.barred(0), 4);
        due("in each show", house.show(), 2);
        house.exit(0, 0);
        house.exit(1, 0);
        house.enter(0, 2);
        due("somebody who bears it", house.show(), 0);
    }

    private static void showShared() {
        Wighall house = houseWithPieces();
        house.person(560, 0, 0);
        house.person(560, 3, 0);
        house.person(560, 9, 15);
        house.knot(0, 3, 3, 0, 1);
        house.set(0);
        house.look(0, -1, 1, 0, 0, 0);
        house.look(1, 0, 1, 0, 0, 0);
        house.look(2, 0, 1, 0, 0, 0);
        house.look(2, 2, -1, 0, 0, 0);
        house.scene(10, 0);
        house.enter(0, 2);
        due("without another one", house.show(), 1);
        due("glue alone", HouseView.lackRow(house), "0g2");
        house.set(0);
        house.enter(0, 1);
        house.enter(0, 0);
        due("a beard of one, head and beard of others", house.show(), 2);
        due("once for both pieces, without glue", HouseView.lackRow(house), "0s1 0s2");
        due("person 1 wears the head", house.of(0, 's'), 80);
        house.enter(0, 3);
        due("another head", house.show(), 2);
        due("it is down", HouseView.lackRow(house), "0s1 0d2");
        due("again", house.of(0, 's'), 60);
        sharedWornOrNot();
        sharedBeardIsNone();
    }

    private static void sharedWornOrNot() {
        Wighall house = houseWithPieces();
        for (int i = 0; i < 3; i++) {
            house.person(560, 0, 0);
            house.look(i, 2, i == 0 ? -1 : 1, 0, 0, 0);
        }
        house.knot(2, 3, 3, 0, 1);
        house.set(2);
        house.scene(10, 0);
        house.enter(0, 0);
        house.enter(0, 1);
        house.enter(0, 2);
        due("two do not wear the head", house.show(), 2);
        due("one of them not the beard either", HouseView.lackRow(house), "0s1 0s2");
        due("worn by one alone", house.of(2, 's'), 90);
    }

    private static void sharedBeardIsNone() {
        Wighall house = houseWithPeople();
        house.look(0, -1, 1, 0, 0, 0);
        house.look(1, -1, 1, 0, 0, 0);
        house.scene(40, 0);
        house.scene(40, 0);
        house.scene(40, 0);
        house.enter(0, 1);
        house.enter(1, 1);
        house.enter(2, 1);
        house.show();
        due("worn by one", HouseView.lackRow(house), "1o1 2o1");
        house.enter(1, 0);
        house.show();
        due("not worn is none for what comes behind", HouseView.lackRow(house), "1s1");
    }

    private static void showLate() {
        Wighall house = houseWithPeople();
        house.person(560, 0, 1);
        house.look(0, 0, 1, 0, 0, 0);
        house.look(2, -1, -1, 0, 0, 0);
        house.look(2, 0, 1, 0, 0, 0);
        house.look(2, 2, 1, 0, 0, 0);
        house.look(1, 0, -1, 0, 0, 0);
        house.scene(40, 0);
        house.scene(61 - 20, 0);
        house.scene(60, 0);
        house.enter(0, 1);
        house.enter(1, 2);
        house.enter(2, 3);
        house.show();
        due("late, down, glue, off", HouseView.lackRow(house), "1l2 1d2 1g2 2l2 2d2 2o2 2g2");
        house.enter(2, 0);
        house.show();
        due("late, shared, down", HouseView.lackRow(house), "1l2 1d2 1g2 2d0 2l2 2s2 2d2");
        house.dresser(0);
        house.scene(1, 0);
        house.exit(1, 2);
        house.exit(2, 2);
        house.enter(3, 3);
        house.show();
        due("in time", HouseView.lackRow(house), "2d0 3d2 3g2");
    }

    private static void lacks() {
        Wighall house = new Wighall();
        due("ahead of the first show", house.lacks(), 0);
        for (int i = 0; i < 10; i++) {
            house.person(560, 9, 15);
            house.piece('b', 0);
            house.look(i, -1, i, 0, 0, 0);
        }
        for (int s = 0; s < 4; s++) {
            house.scene(60, 0);
            for (int i = 0; i < 10; i++) {
                house.enter(s, i);
            }
        }
        due("all are told", house.show(), 80);
        due("60 are kept", house.lacks(), 60);
        due("the last one kept", house.lack(59, 's') * 100 + house.lack(59, 'p') * 10, 290);
        due("its sort", house.lackSort(59), 'g');
        refused(house, "lack(60, 's')", INDEX, () -> house.lack(60, 's'));
        refused(house, "lackSort(60)", INDEX, () -> house.lackSort(60));
        for (int s = 1; s < 4; s++) {
            for (int i = 0; i < 10; i++) {
                house.exit(s, i);
            }
        }
        due("those of the last show", house.show(), 20);
        due("are kept", house.lacks(), 20);
        refused(house, "lack(20, 's')", INDEX, () -> house.lack(20, 's'));
    }

    private static void lack() {
        Wighall house = new Wighall();
        refused(house, "ahead of the first show", INDEX, () -> house.lack(0, 's'));
        for (int i = 0; i < 3; i++) {
            house.person(560, 0, 0);
            house.piece('w', 560);
            house.look(i, i, -1, 0, 0, 0);
        }
        house.scene(1, 0);
        house.scene(1, 0);
        house.enter(0, 1);
        house.enter(1, 2);
        house.enter(1, 0);
        house.show();
        due("by scenes, then by people", HouseView.lackRow(house), "0d1 1d0 1d2");
        due("lack(2, 's')", house.lack(2, 's'), 1);
        due("lack(2, 'p')", house.lack(2, 'p'), 2);
        refused(house, "lack(3, 's')", INDEX, () -> house.lack(3, 'q'));
        refused(house, "lack(-1, 's')", INDEX, () -> house.lack(-1, 's'));
        refused(house, "lack(0, 'q')", ARGUMENT, () -> house.lack(0, 'q'));
    }

    private static void lackSort() {
        Wighall house = houseWithPieces();
        refused(house, "ahead of the first show", INDEX, () -> house.lackSort(0));
        house.person(560, 0, 0);
        house.person(560, 9, 1);
        house.look(0, 0, -1, 0, 0, 0);
        house.look(1, 0, 1, 0, 0, 0);
        house.look(1, 2, 1, 0, 3, 0);
        house.scene(60, 0);
        house.scene(60, 0);
        house.enter(0, 0);
        house.enter(0, 1);
        house.enter(1, 2);
        due("show()", house.show(), 8);
        StringBuilder sorts = new StringBuilder();
        for (int i = 0; i < house.lacks(); i++) {
            sorts.append(house.lackSort(i));
        }
        due("all sorts in their order", sorts.toString(), "dsogldog");
        refused(house, "lackSort(8)", INDEX, () -> house.lackSort(8));
        refused(house, "lackSort(-1)", INDEX, () -> house.lackSort(-1));
    }

    private static void shoot() {
        Wighall house = houseWithPeople();
        house.look(0, 0, -1, 0, 0, 7);
        house.look(0, 0, -1, 3, 0, 7);
        house.look(0, 0, 1, 0, 0, 7);
        house.look(0, 0, -1, 0, 1, 7);
        house.look(0, -1, -1, 0, 0, 7);
        house.look(0, 0, 1, 0, 0, 8);
        house.look(1, 0, 1, 0, 0, 7);
        due("the first one", house.shoot(0), true);
        due("again", house.shoot(0), true);
        due("another glue alone", house.shoot(1), true);
        due("a beard", house.shoot(2), false);
        due("a layer", house.shoot(3), false);
        due("no head, as one without knots", house.shoot(4), true);
        due("another day", house.shoot(5), true);
        due("another person", house.shoot(6), true);
        house.knot(0, 3, 3, 0, 1);
        due("the head has a colour then", house.shoot(0), false);
        due("the book stays", house.shoot(0), false);
        due("of each day", house.shoot(5), false);
        house.unknot(0, 3, 3);
        due("as it was told", house.shoot(0), true);
        due("the mistakes", house.mistakes(), 5);
        refused(house, "shoot(7)", INDEX, () -> house.shoot(7));
        refused(house, "shoot(-1)", INDEX, () -> house.shoot(-1));
        shootColours();
    }

    private static void shootColours() {
        Wighall house = houseWithPeople();
        house.piece('b', 0);
        house.knot(0, 3, 3, 0, 1);
        house.knot(2, 3, 3, 0, 1);
        house.look(0, 0, 1, 0, 0, 0);
        house.look(0, 2, 3, 0, 0, 0);
        due("a head of colour 40", house.shoot(0), true);
        due("another head of the same colour, another beard", house.shoot(1), true);
        house.knot(2, 4, 4, 3, 1);
        due("a mean of 21", house.shoot(1), false);
        house.hire(0, 1);
        due("also of what is out", house.shoot(0), true);
        house.knot(1, 0, 0, 0, 1);
        due("the colour of the beard is not told", house.shoot(0), true);
    }

    private static void mistakes() {
        Wighall house = houseWithPeople();
        house.look(0, -1, -1, 0, 0, 0);
        house.look(0, -1, -1, 0, 5, 0);
        house.look(0, -1, 1, 0, 5, 1);
        due("at first", house.mistakes(), 0);
        house.shoot(0);
        due("a first shot", house.mistakes(), 0);
        house.shoot(1);
        due("a mistake", house.mistakes(), 1);
        house.shoot(1);
        due("the same one again", house.mistakes(), 2);
        house.shoot(0);
        house.shoot(2);
        due("no mistake", house.mistakes(), 2);
    }

    private static void box() {
        Wighall house = new Wighall();
        due("box('w')", house.box('w'), 0);
        due("box('b')", house.box('b'), 1);
        refused(house, "box('q')", ARGUMENT, () -> house.box('q'));
        due("box('w')", house.box('w'), 2);
        due("box('b')", house.box('b'), 3);
        refused(house, "a 5th box", STATE, () -> house.box('w'));
        refused(house, "a wrong 5th box", ARGUMENT, () -> house.box('q'));
    }

    private static void store() {
        Wighall house = houseWithPieces();
        house.box('w');
        house.box('b');
        house.box('w');
        due("store(0, 3, 0)", house.store(0, 3, 0), 1);
        refused(house, "in a box", UNSUPPORTED, () -> house.store(0, 0, 0));
        refused(house, "in another box", UNSUPPORTED, () -> house.store(2, 0, 0));
        refused(house, "the slot is taken", UNSUPPORTED, () -> house.store(0, 3, 2));
        due("store(0, 0, 2)", house.store(0, 0, 2), 2);
        due("store(1, 3, 1)", house.store(1, 3, 1), 1);
        house.piece('w', 560);
        refused(house, "the first slot is taken", UNSUPPORTED, () -> house.store(0, 0, 3));
        house.unbox(0);
        due("the slot is free", house.store(0, 3, 0), 2);
        house.unbox(0);
        house.unbox(1);
        refused(house, "a head among beards", UNSUPPORTED, () -> house.store(1, 0, 0));
        refused(house, "a beard among heads", UNSUPPORTED, () -> house.store(2, 0, 1));
        house.hire(0, 1);
        refused(house, "on hire", UNSUPPORTED, () -> house.store(2, 0, 0));
        house.back(0);
        due("store(2, 0, 0)", house.store(2, 0, 0), 1);
        refused(house, "store(3, 0, 0)", INDEX, () -> house.store(3, 9, 0));
        refused(house, "store(-1, 0, 0)", INDEX, () -> house.store(-1, 0, 0));
        refused(house, "store(0, 0, 4)", INDEX, () -> house.store(0, 9, 4));
        refused(house, "store(0, 0, -1)", INDEX, () -> house.store(0, 0, -1));
        refused(house, "store(0, 4, 0)", ARGUMENT, () -> house.store(0, 4, 0));
        refused(house, "store(0, -1, 0)", ARGUMENT, () -> house.store(0, -1, 0));
    }

    private static void unbox() {
        Wighall house = houseWithPieces();
        house.box('b');
        house.box('w');
        refused(house, "in none", UNSUPPORTED, () -> house.unbox(0));
        house.store(1, 0, 0);
        house.store(1, 1, 2);
        house.store(0, 0, 1);
        due("unbox(0)", house.unbox(0), 1);
        refused(house, "in none again", UNSUPPORTED, () -> house.unbox(0));
        due("unbox(1)", house.unbox(1), 0);
        due("the other one is there", house.store(1, 0, 0), 2);
        due("unbox(2)", house.unbox(2), 1);
        house.hire(2, 1);
        refused(house, "on hire", UNSUPPORTED, () -> house.unbox(2));
        refused(house, "unbox(3)", INDEX, () -> house.unbox(3));
        refused(house, "unbox(-1)", INDEX, () -> house.unbox(-1));
    }

    private static void hire() {
        Wighall house = houseWithPieces();
        due("without knots", house.hire(0, 30), 30);
        refused(house, "on hire", UNSUPPORTED, () -> house.hire(0, 1));
        for (int i = 0; i < 6; i++) {
            house.knot(2, i, 0, 0, 3);
        }
        house.knot(2, 0, 1, 0, 1);
        due("19 knots", house.hire(2, 2), 2);
        house.back(2);
        house.knot(2, 0, 1, 0, 1);
        due("20 knots", house.hire(2, 2), 4);
        house.back(2);
        house.knot(2, 1, 1, 0, 9);
        house.knot(2, 2, 1, 0, 9);
        house.knot(2, 3, 1, 0, 2);
        due("40 knots", house.hire(2, 1), 3);
        refused(house, "0 days", ARGUMENT, () -> house.hire(0, 0));
        refused(house, "31 days", ARGUMENT, () -> house.hire(1, 31));
        refused(house, "hire(3, 0)", INDEX, () -> house.hire(3, 0));
        refused(house, "hire(-1, 1)", INDEX, () -> house.hire(-1, 1));
        house.box('b');
        house.store(0, 0, 1);
        refused(house, "in a box", UNSUPPORTED, () -> house.hire(1, 1));
        house.unbox(1);
        due("a beard", house.hire(1, 1), 1);
        due("no money as yet but for what came back", house.money(), 6);
    }

    private static void back() {
        Wighall house = houseWithPieces();
        refused(house, "not out", UNSUPPORTED, () -> house.back(0));
        house.hire(0, 5);
        due("at once: all days told", house.back(0), 5);
        refused(house, "back already", UNSUPPORTED, () -> house.back(0));
        house.days(10);
        house.hire(0, 5);
        house.days(5);
        due("on the last day", house.back(0), 5);
        house.hire(0, 5);
        house.days(6);
        due("a day longer", house.back(0), 7);
        fill(house, 2, 1, 0, 3);
        house.knot(2, 0, 1, 0, 2);
        house.hire(2, 3);
        house.days(8);
        due("5 days longer, at 2 a day", house.back(2), 6 + 20);
        house.box('w');
        house.store(0, 0, 0);
        refused(house, "in a box", UNSUPPORTED, () -> house.back(0));
        refused(house, "back(3)", INDEX, () -> house.back(3));
        refused(house, "back(-1)", INDEX, () -> house.back(-1));
    }

    private static void days() {
        Wighall house = new Wighall();
        due("days(1)", house.days(1), 1);
        due("days(60)", house.days(60), 61);
        refused(house, "days(0)", ARGUMENT, () -> house.days(0));
        refused(house, "days(61)", ARGUMENT, () -> house.days(61));
        refused(house, "days(-1)", ARGUMENT, () -> house.days(-1));
        refused(house, "days without end", ARGUMENT, () -> house.days(Integer.MAX_VALUE));
        for (int day = 121; day < 999; day += 60) {
            due("days(60)", house.days(60), day);
        }
        due("days(30)", house.days(30), 991);
        refused(house, "day 1000", STATE, () -> house.days(9));
        refused(house, "a wrong number late", ARGUMENT, () -> house.days(61));
        due("day 999", house.days(8), 999);
        refused(house, "a day more", STATE, () -> house.days(1));
    }

    private static void money() {
        Wighall house = houseWithPieces();
        house.hire(0, 5);
        due("not ahead of its coming back", house.money(), 0);
        house.days(7);
        house.back(0);
        due("money()", house.money(), 9);
        house.hire(1, 3);
        house.back(1);
        due("money()", house.money(), 12);
    }

    private static void checksum() {
        Wighall house = new Wighall();
        due("at first", house.checksum(), 7L * 31);
        house.bundle('h', 30, 40, 100);
        house.bundle('h', 30, 40, 50);
        due("all grams", house.checksum(), 7L * 31 + 150);
        house.piece('w', 560);
        due("a head without knots", house.checksum(), (((7L * 31) * 31 - 1) * 31) * 31 + 150);
        house.knot(0, 3, 3, 0, 5);
        house.set(0);
        long sum = ((7L * 31 + 5) * 31 + 40) * 31 + 100;
        due("knots, colour, set", house.checksum(), sum * 31 + 149);
        house.piece('b', 0);
        house.knot(1, 0, 0, 1, 2);
        sum = ((sum * 31 + 2) * 31 + 40) * 31;
        due("and a beard", house.checksum(), sum * 31 + 148);
        for (int i = 2; i < 12; i++) {
            house.piece('b', 0);
            sum = (sum * 31 * 31 - 1) * 31;
        }
        due("beyond an int and a long", house.checksum(), sum * 31 + 148);
    }

    private static void fullShare() {
        Wighall house = houseWithPieces();
        due("without knots", house.fullShare(0), 0.0f);
        house.knot(0, 3, 3, 0, 9);
        due("one of 36", house.fullShare(0), 1.0f / 36.0f);
        house.knot(0, 3, 4, 0, 1);
        house.knot(1, 3, 0, 0, 1);
        due("two of 36", house.fullShare(0), 2.0f / 36.0f);
        due("one of 12", house.fullShare(1), 1.0f / 12.0f);
        fill(house, 2, 6, 0, 1);
        due("all", house.fullShare(2), 1.0f);
        refused(house, "fullShare(3)", INDEX, () -> house.fullShare(3));
        refused(house, "fullShare(-1)", INDEX, () -> house.fullShare(-1));
    }

    private static void meanLength() {
        Wighall house = houseWithPieces();
        refused(house, "without knots", ArithmeticException.class, () -> house.meanLength(0));
        house.knot(0, 3, 3, 0, 9);
        due("one place", house.meanLength(0), 30.0);
        house.knot(0, 3, 4, 1, 1);
        house.knot(0, 3, 4, 3, 1);
        due("two places", house.meanLength(0), 25.0);
        house.knot(0, 0, 0, 3, 1);
        due("three places", house.meanLength(0), 100.0 / 3.0);
        house.cut(0, 0, 0, 1);
        due("a cut", house.meanLength(0), 17.0);
        house.unknot(0, 0, 0);
        due("two places again", house.meanLength(0), 25.0);
        house.knot(1, 5, 1, 2, 1);
        due("a beard", house.meanLength(1), 25.0);
        refused(house, "meanLength(3)", INDEX, () -> house.meanLength(3));
        refused(house, "meanLength(-1)", INDEX, () -> house.meanLength(-1));
    }

    private static void isSound() {
        Wighall house = houseWithLooks();
        due("at first", house.isSound(), true);
        fill(house, 0, 1, 0, 3);
        fill(house, 1, 2, 0, 9);
        for (int y = 1; y < 6; y++) {
            for (int x = 0; x < 6; x++) {
                house.knot(0, x, y, (x + y) % 3, 9);
            }
        }
        due("full to the brim", house.isSound(), true);
        house.scene(10, 0);
        house.scene(1, 0);
        house.scene(1, 0);
        house.dresser(0);
        house.enter(0, 0);
        house.enter(0, 2);
        house.enter(2, 1);
        house.enter(2, 3);
        due("with changes, one late", house.isSound(), true);
        due("one is late", house.late(), 1);
        house.shoot(0);
        house.shoot(1);
        house.shoot(3);
        due("with a book", house.isSound(), true);
        house.box('w');
        house.store(0, 0, 0);
        house.store(0, 1, 2);
        due("with a box", house.isSound(), true);
        house.unbox(0);
        house.store(0, 0, 0);
        house.unbox(0);
        house.unbox(2);
        due("without what was in it", house.isSound(), true);
        house.show();
        house.hire(0, 1);
        due("behind a show, with hire", house.isSound(), true);
        soundPlans();
    }

    private static void soundPlans() {
        Wighall house = houseWithLooks();
        house.look(0, -1, 1, 0, 0, 0);
        house.knot(0, 3, 3, 0, 1);
        house.knot(0, 3, 3, 1, 1);
        house.knot(0, 3, 3, 2, 1);
        due("hair of three bundles", house.isSound(), true);
        for (int i = 0; i < 4; i++) {
            house.scene(1, 0);
        }
        house.enter(0, 0);
        house.enter(2, 5);
        house.enter(1, 2);
        house.enter(3, 3);
        due("both are late", house.late(), 2);
        due("two late at once", house.isSound(), true);
        house.dresser(0);
        due("both are done", house.late(), 0);
        due("one change right behind the other", house.isSound(), true);
        house.dresser(0);
        house.exit(1, 1);
        house.enter(0, 2);
        due("both at once", house.change(0, 'd') * 10 + house.change(1, 'd'), 1);
        due("by two dressers", house.isSound(), true);
    }
}
