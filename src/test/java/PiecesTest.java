/** Promises 11 and 12: PIECES, and what is told about them. */
public final class PiecesTest {
    private static final int NONE = WheelYard.NONE;
    private static final Checks c = new Checks();

    public static void main(String[] args) {
        piece();
        mostPieces();
        aboutWood();
        aboutIron();
        aboutPlaces();
        aboutDryness();
        c.end();
    }

    private static void piece() {
        WheelYard x = new WheelYard();
        c.agreed(x, "11: piece(0, 3, 9, 1)", x.piece(0, 3, 9, 1), 0);
        c.agreed(x, "11: piece(3, 0, 0, 30000)", x.piece(3, 0, 0, 30000), 1);
        c.agreed(x, "11: piece(4, -7, 99, 1)", x.piece(4, -7, 99, 1), 2);
        c.agreed(x, "11: piece(5, 4, -1, 30000)", x.piece(5, 4, -1, 30000), 3);
        c.refused(x, "11: piece(-1, 0, 0, 1)", x.piece(-1, 0, 0, 1), 17);
        c.refused(x, "11: piece(6, 0, 0, 1)", x.piece(6, 0, 0, 1), 17);
        for (int sort = 0; sort <= 3; sort++) {
            c.refused(x, "11: piece of WOOD 4", x.piece(sort, 4, 0, 1), 17);
            c.refused(x, "11: piece of WOOD -1", x.piece(sort, -1, 0, 1), 17);
            c.refused(x, "11: piece of SLOPE 10", x.piece(sort, 0, 10, 1), 17);
            c.refused(x, "11: piece of SLOPE -1", x.piece(sort, 0, -1, 1), 17);
        }
        for (int sort = 0; sort <= 5; sort++) {
            c.refused(x, "11: piece of size 0", x.piece(sort, 0, 0, 0), 17);
            c.refused(x, "11: piece of size 30001", x.piece(sort, 0, 0, 30001), 17);
        }
        c.due("11: count(1)", x.count(1), 4);
    }

    private static void mostPieces() {
        WheelYard x = new WheelYard();
        for (int p = 0; p < 200; p++) {
            c.agreed(x, "11: piece " + p, x.piece(2, 0, 0, 1 + p), p);
        }
        c.refused(x, "11: piece 200", x.piece(2, 0, 0, 1), 17);
        c.due("11: count(1)", x.count(1), 200);
        c.due("11: about(199, 4)", x.about(199, 4), 200);
        c.refused(x, "12: about(200, 4)", x.about(200, 4), 3);
    }

    private static void aboutWood() {
        WheelYard x = new WheelYard();
        x.years(7);
        x.piece(3, 2, 5, 471);
        x.years(1);
        int[] due = {3, 2, 7, 5, 471, 0, NONE, NONE, 0};
        for (int what = 0; what < due.length; what++) {
            c.agreed(x, "12: about(0, " + what + ")", x.about(0, what), due[what]);
        }
        c.refused(x, "12: about(0, 9)", x.about(0, 9), 17);
        c.refused(x, "12: about(0, -1)", x.about(0, -1), 17);
        c.refused(x, "12: about(1, 9), ahead of 17", x.about(1, 9), 3);
        c.refused(x, "12: about(-1, 0)", x.about(-1, 0), 3);
    }

    private static void aboutIron() {
        WheelYard x = new WheelYard();
        x.years(7);
        x.piece(4, 2, 5, 471);
        x.piece(5, 2, 5, 30);
        int[][] due = {{4, NONE, NONE, NONE, 471, 0, NONE, NONE, 1}, {5, NONE, NONE, NONE, 30, 0, NONE, NONE, 1}};
        for (int p = 0; p < 2; p++) {
            for (int what = 0; what < 9; what++) {
                c.agreed(x, "12: about(" + p + ", " + what + ")", x.about(p, what), due[p][what]);
            }
        }
    }

    private static void aboutPlaces() {
        WheelYard x = Yards.withTyre();
        x.wheel(8, 100, 10, 101);
        x.put(1, 3, x.piece(1, 0, 0, 100));
        x.turn(0, 2);
        int[] wears = {2, 4, 6, 2, 8};
        int[] pieces = {0, 8, 12, 16, 17};
        for (int i = 0; i < pieces.length; i++) {
            c.due("12: WEAR of " + pieces[i], x.about(pieces[i], 5), wears[i]);
            c.due("12: WHEEL of " + pieces[i], x.about(pieces[i], 6), 0);
            c.due("12: place of " + pieces[i], x.about(pieces[i], 7), pieces[i]);
        }
        c.due("12: WHEEL of 18", x.about(18, 6), 1);
        c.due("12: place of 18", x.about(18, 7), 3);
        c.due("12: WEAR of 18", x.about(18, 5), 0);
        x.out(1, 3);
        c.agreed(x, "12: WHEEL of 18, FREE", x.about(18, 6), NONE);
        c.agreed(x, "12: place of 18, FREE", x.about(18, 7), NONE);
    }

    private static void aboutDryness() {
        WheelYard x = new WheelYard();
        x.dampRow(1, 4, 21);
        x.damp(1, 1, 20);
        x.damp(1, 2, 0);
        x.years(3);
        x.piece(2, 1, 0, 1);
        x.piece(2, 0, 0, 1);
        int[] due = {0, 1, 1, 0, 0};
        for (int age = 0; age < due.length; age++) {
            c.agreed(x, "12: about(0, 8) after " + age, x.about(0, 8), due[age]);
            c.agreed(x, "12: about(1, 8) after " + age, x.about(1, 8), 0);
            x.years(1);
        }
    }
}
