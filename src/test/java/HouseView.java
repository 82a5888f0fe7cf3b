/** All that the face shows of a house: for tests of what changes nothing. */
final class HouseView {
    private static final int BUNDLES = 20;
    private static final int PIECES = 12;
    private static final int PEOPLE = 10;
    private static final int LOOKS = 24;
    private static final int SCENES = 12;
    private static final int SLOTS = 4;

    private HouseView() {
    }

    private interface Asking {
        Object answer();
    }

    /** What can be asked without changing the house. */
    static String of(Wighall house) {
        StringBuilder view = new StringBuilder();
        hair(house, view);
        pieces(house, view);
        people(house, view);
        view.append(" late ").append(house.late()).append(" changes ").append(changeRow(house));
        view.append(" lacks ").append(lackRow(house));
        view.append(" mistakes ").append(house.mistakes()).append(" money ").append(house.money());
        return view.append(" sum ").append(house.checksum()).append(house.isSound()).toString();
    }

    /** The lacks of the last show, as in 1d0 2l3: scene, sort, person. */
    static String lackRow(Wighall house) {
        StringBuilder row = new StringBuilder();
        for (int i = 0; i < house.lacks(); i++) {
            row.append(house.lack(i, 's')).append(house.lackSort(i)).append(house.lack(i, 'p')).append(' ');
        }
        return row.toString().trim();
    }

    /** The changes, as in p0s40t80a0b2d0. */
    static String changeRow(Wighall house) {
        StringBuilder row = new StringBuilder();
        for (int i = 0; i < house.changes(); i++) {
            for (char what : "pstabd".toCharArray()) {
                row.append(what).append(house.change(i, what));
            }
            row.append(' ');
        }
        return row.toString().trim();
    }

    /**
     * All of the above, and what comes out only as the house is changed: who is in which scene, what is out since when
     * or in which slot, what the book tells, how many more of each sort there can be. The house is of no use behind it.
     */
    static String takenApart(Wighall house) {
        StringBuilder view = new StringBuilder(of(house));
        book(house, view);
        away(house, view);
        ask(view, house::show);
        view.append(lackRow(house));
        for (int i = 0; i < PIECES; i++) {
            int piece = i;
            ask(view, () -> house.set(piece));
            ask(view, () -> house.crown(piece, 0, 0));
        }
        glues(house, view);
        plan(house, view);
        rooms(house, view);
        ask(view, () -> house.days(60));
        return view.toString();
    }

    private static void ask(StringBuilder view, Asking asking) {
        view.append(' ');
        try {
            view.append(asking.answer());
        } catch (RuntimeException e) {
            view.append(e.getClass().getSimpleName());
        }
    }

    private static boolean isTaken(StringBuilder view, Asking asking) {
        int before = view.length();
        ask(view, asking);
        return !view.substring(before).endsWith("Exception");
    }

    private static void hair(Wighall house, StringBuilder view) {
        for (int i = 0; i < BUNDLES; i++) {
            try {
                for (char what : "lcgb".toCharArray()) {
                    view.append(what).append(house.hair(i, what));
                }
            } catch (IndexOutOfBoundsException e) {
                return;
            }
        }
    }

    private static void pieces(Wighall house, StringBuilder view) {
        for (int i = 0; i < PIECES; i++) {
            try {
                view.append(" piece ").append(i);
                for (char what : "kmscz".toCharArray()) {
                    view.append(what).append(house.of(i, what));
                }
                view.append(house.isFull(i)).append(house.isEven(i)).append(house.fullShare(i));
            } catch (IndexOutOfBoundsException e) {
                return;
            }
            for (int at = 0; at < 36; at++) {
                spot(house, i, at % 6, at / 6, view);
            }
            for (int who = 0; who < PEOPLE; who++) {
                int piece = i;
                int person = who;
                ask(view, () -> house.fits(piece, person));
            }
        }
    }

    private static void spot(Wighall house, int piece, int x, int y, StringBuilder view) {
        view.append(' ').append(house.flow(piece, x, y));
        try {
            for (char what : "kcldb".toCharArray()) {
                view.append(what).append(house.place(piece, x, y, what));
            }
        } catch (java.util.NoSuchElementException e) {
            view.append('-');
        }
    }

    private static void people(Wighall house, StringBuilder view) {
        for (int i = 0; i < PEOPLE; i++) {
            try {
                view.append(" person ").append(house.barred(i));
            } catch (IndexOutOfBoundsException e) {
                break;
            }
        }
        for (int i = 0; i < LOOKS; i++) {
            for (int k = 0; k < LOOKS; k++) {
                try {
                    view.append(' ').append(house.seconds(i, k));
                } catch (IllegalArgumentException e) {
                    view.append(" -");
                } catch (IndexOutOfBoundsException e) {
                    break;
                }
            }
        }
    }

    // ---- what changes the house

    private static void book(Wighall house, StringBuilder view) {
        view.append(" book");
        for (int i = 0; i < LOOKS; i++) {
            int look = i;
            ask(view, () -> house.shoot(look));
        }
    }

    /** What is taken out of a box is put into each of its slots in turn: so it is seen where the others are. */
    private static void away(Wighall house, StringBuilder view) {
        view.append(" away");
        ask(view, () -> house.days(1));
        for (int i = 0; i < PIECES; i++) {
            int piece = i;
            ask(view, () -> house.back(piece));
            int before = view.length();
            if (isTaken(view, () -> house.unbox(piece))) {
                int box = Integer.parseInt(view.substring(before).trim());
                for (int k = 0; k < SLOTS; k++) {
                    int slot = k;
                    if (isTaken(view, () -> house.store(box, slot, piece))) {
                        ask(view, () -> house.unbox(piece));
                    }
                }
            }
        }
        ask(view, house::money);
    }

    private static void glues(Wighall house, StringBuilder view) {
        view.append(" glues");
        for (int i = 0; i < PEOPLE; i++) {
            for (int k = 0; k < SLOTS; k++) {
                int person = i;
                int glue = k;
                ask(view, () -> house.tryGlue(person, glue));
            }
        }
    }

    private static void plan(Wighall house, StringBuilder view) {
        view.append(" plan");
        for (int i = 0; i < SCENES; i++) {
            for (int k = 0; k < PEOPLE; k++) {
                int scene = i;
                int person = k;
                ask(view, () -> house.exit(scene, person));
            }
        }
    }

    private static void rooms(Wighall house, StringBuilder view) {
        view.append(" rooms");
        ask(view, () -> house.bundle('h', 30, 40, 1));
        ask(view, () -> house.piece('b', 0));
        ask(view, () -> house.person(560, 0, 0));
        ask(view, () -> house.look(0, -1, -1, 0, 0, 0));
        ask(view, () -> house.scene(1, 0));
        ask(view, () -> house.dresser(0));
        ask(view, () -> house.box('w'));
    }
}
