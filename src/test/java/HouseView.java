/** All that the face shows of a house, asked without changing it: for tests of what changes nothing. */
final class HouseView {
    private HouseView() {
    }

    static String of(Wighall house) {
        StringBuilder view = new StringBuilder();
        hair(house, view);
        pieces(house, view);
        people(house, view);
        changes(house, view);
        view.append(" lacks");
        for (int i = 0; i < house.lacks(); i++) {
            view.append(' ').append(house.lackSort(i)).append(house.lack(i, 's'));
            view.append(',').append(house.lack(i, 'p'));
        }
        view.append(" mistakes ").append(house.mistakes()).append(" money ").append(house.money());
        return view.append(" sum ").append(house.checksum()).append(house.isSound()).toString();
    }

    private static void hair(Wighall house, StringBuilder view) {
        for (int i = 0; i < 20; i++) {
            try {
                for (char what : "lcgb".toCharArray()) {
                    view.append(what).append(house.hair(i, what));
                }
            } catch (IndexOutOfBoundsException e) {
                return;
            }
        }
    }

    private static void pieces(Wighall house, StringBuilder view) {
        for (int i = 0; i < 12; i++) {
            try {
                view.append(" piece ").append(i);
                for (char what : "kmscz".toCharArray()) {
                    view.append(what).append(house.of(i, what));
                }
                view.append(house.isFull(i)).append(house.isEven(i)).append(house.fullShare(i));
            } catch (IndexOutOfBoundsException e) {
                return;
            }
            for (int at = 0; at < 36; at++) {
                spot(house, i, at % 6, at / 6, view);
            }
        }
    }

    private static void spot(Wighall house, int piece, int x, int y, StringBuilder view) {
        view.append(' ').append(house.flow(piece, x, y));
        try {
            for (char what : "kcldb".toCharArray()) {
                view.append(what).append(house.place(piece, x, y, what));
            }
        } catch (java.util.NoSuchElementException e) {
            view.append('-');
        }
    }

    private static void people(Wighall house, StringBuilder view) {
        for (int i = 0; i < 10; i++) {
            try {
                view.append(" person ").append(house.barred(i));
            } catch (IndexOutOfBoundsException e) {
                break;
            }
        }
        for (int i = 0; i < 24; i++) {
            for (int k = 0; k < 24; k++) {
                try {
                    view.append(' ').append(house.seconds(i, k));
                } catch (IllegalArgumentException e) {
                    view.append(" -");
                } catch (IndexOutOfBoundsException e) {
                    break;
                }
            }
        }
    }

    private static void changes(Wighall house, StringBuilder view) {
        view.append(" late ").append(house.late());
        for (int i = 0; i < house.changes(); i++) {
            for (char what : "pstabd".toCharArray()) {
                view.append(what).append(house.change(i, what));
            }
        }
    }
}
