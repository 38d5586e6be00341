/** Each sentence of promises 11 and 12, and of what Terms 1 says of PIECES, that names a bound. */
public final class BoundsOfPiecesTest {
    private static final int NONE = WheelYard.NONE;
    private static final Checks c = new Checks();

    public static void main(String[] args) {
        sorts();
        woods();
        slopes();
        woodsAndSlopesOfIronAreNotLookedAt();
        sizes();
        mostPiecesOfEachSort();
        fullStaysFull();
        roomAgainAfterUndo();
        refusedOnesTakeNoNumber();
        cutInThisYear();
        newOnesAreFreeAndUnworn();
        aboutWhichPiece();
        aboutWhat();
        aboutAsksThePieceFirst();
        aboutIron();
        aboutPlaces();
        aboutDampOfTwenty();
        aboutAges();
        aboutWithoutRow();
        c.end();
    }

    /** Terms 1: the SORTS are 0 to 5. 11: "no such SORT". */
    private static void sorts() {
        WheelYard x = new WheelYard();
        for (int sort = 0; sort <= 5; sort++) {
            c.agreed(x, "11: piece(" + sort + ", ..)", x.piece(sort, 0, 0, 1), sort);
            c.agreed(x, "12: its SORT", x.about(sort, 0), sort);
        }
        for (int sort : Checks.outside(0, 5)) {
            c.refused(x, "11: piece(" + sort + ", ..)", x.piece(sort, 0, 0, 1), 17);
        }
        c.due("11: count(1)", x.count(1), 6);
    }

    /** 11: "WOOD", of 0 to 3. */
    private static void woods() {
        for (int sort = 0; sort <= 3; sort++) {
            WheelYard x = new WheelYard();
            for (int wood = 0; wood <= 3; wood++) {
                c.agreed(x, "11: SORT " + sort + " of WOOD " + wood, x.piece(sort, wood, 0, 1), wood);
                c.agreed(x, "12: its WOOD", x.about(wood, 1), wood);
            }
            for (int wood : Checks.outside(0, 3)) {
                c.refused(x, "11: SORT " + sort + " of WOOD " + wood, x.piece(sort, wood, 0, 1), 17);
            }
            c.due("11: count(1)", x.count(1), 4);
        }
    }

    /** Terms 1: "with a SLOPE (0 to 9)". */
    private static void slopes() {
        for (int sort = 0; sort <= 3; sort++) {
            WheelYard x = new WheelYard();
            for (int slope = 0; slope <= 9; slope++) {
                c.agreed(x, "11: SORT " + sort + " of SLOPE " + slope, x.piece(sort, 0, slope, 1), slope);
                c.agreed(x, "12: its SLOPE", x.about(slope, 3), slope);
            }
            for (int slope : Checks.outside(0, 9)) {
                c.refused(x, "11: SORT " + sort + " of SLOPE " + slope, x.piece(sort, 0, slope, 1), 17);
            }
            c.due("11: count(1)", x.count(1), 10);
        }
    }

    /** 11: "WOOD, of TYRES and STRAKES not looked at; SLOPE, likewise". */
    private static void woodsAndSlopesOfIronAreNotLookedAt() {
        for (int sort = 4; sort <= 5; sort++) {
            WheelYard x = new WheelYard();
            int made = 0;
            for (int wood : Checks.outside(0, 3)) {
                for (int slope : Checks.outside(0, 9)) {
                    c.agreed(x, "11: piece(" + sort + ", " + wood + ", " + slope + ", 1)",
                            x.piece(sort, wood, slope, 1), made);
                    made++;
                }
            }
            c.refused(x, "11: its size is looked at", x.piece(sort, -1, -1, 0), 17);
        }
    }

    /** Terms 1: "sizes 1 to 30000". */
    private static void sizes() {
        for (int sort = 0; sort <= 5; sort++) {
            WheelYard x = new WheelYard();
            int[] sizes = {1, 2, 29999, 30000};
            for (int i = 0; i < sizes.length; i++) {
                c.agreed(x, "11: SORT " + sort + " of size " + sizes[i], x.piece(sort, 0, 0, sizes[i]), i);
                c.agreed(x, "12: its size", x.about(i, 4), sizes[i]);
            }
            for (int size : Checks.outside(1, 30000)) {
                c.refused(x, "11: SORT " + sort + " of size " + size, x.piece(sort, 0, 0, size), 17);
            }
            c.due("11: count(1)", x.count(1), 4);
        }
    }

    /** Terms 1: "at most 200". 11: "200 are". */
    private static void mostPiecesOfEachSort() {
        for (int sort = 0; sort <= 5; sort++) {
            WheelYard x = new WheelYard();
            Yards.pieces(x, 198, sort, 0, 1);
            c.agreed(x, "11: the last but one, of SORT " + sort, x.piece(sort, 0, 0, 1), 198);
            c.agreed(x, "11: the last", x.piece(sort, 0, 0, 30000), 199);
            for (int other = 0; other <= 5; other++) {
                c.refused(x, "11: one too many, of SORT " + other, x.piece(other, 0, 0, 1), 17);
            }
            c.due("11: count(1)", x.count(1), 200);
            c.agreed(x, "12: the last one's size", x.about(199, 4), 30000);
        }
    }

    /** 11: "200 are", be they FREE or not, DRY or not. */
    private static void fullStaysFull() {
        WheelYard x = Yards.withTyre();
        Yards.pieces(x, 182, Yards.STRAKE, 0, 1);
        c.due("11: count(1)", x.count(1), 200);
        c.due("11: count(2)", x.count(2), 182);
        c.refused(x, "11: one too many", x.piece(0, 0, 0, 8), 17);
        x.out(0, 0);
        x.years(100);
        c.refused(x, "11: one too many still", x.piece(0, 0, 0, 8), 17);
        c.due("11: count(1)", x.count(1), 200);
    }

    /** 32: "PIECES .. made since are no more", so that there is room for them. */
    private static void roomAgainAfterUndo() {
        WheelYard x = new WheelYard();
        Yards.pieces(x, 199, 2, 0, 1);
        x.keep();
        c.agreed(x, "11: the last", x.piece(2, 0, 0, 7), 199);
        c.refused(x, "11: one too many", x.piece(2, 0, 0, 7), 17);
        x.undo();
        c.agreed(x, "11: the last anew", x.piece(5, 0, 0, 9), 199);
        c.refused(x, "11: one too many anew", x.piece(2, 0, 0, 7), 17);
        c.agreed(x, "12: its size", x.about(199, 4), 9);
    }

    /** Terms 3: "What is refused changes nothing but the REASON". */
    private static void refusedOnesTakeNoNumber() {
        WheelYard x = new WheelYard();
        x.piece(6, 0, 0, 1);
        x.piece(0, 4, 0, 1);
        x.piece(0, 0, 10, 1);
        x.piece(0, 0, 0, 0);
        c.due("11: count(1)", x.count(1), 0);
        c.agreed(x, "11: the first", x.piece(0, 0, 0, 1), 0);
        x.piece(0, 0, 0, 30001);
        c.agreed(x, "11: the second", x.piece(0, 0, 0, 1), 1);
    }

    /** 11: "cut in this YEAR". */
    private static void cutInThisYear() {
        WheelYard x = new WheelYard();
        int[] more = {0, 1, 100, 100};
        int[] due = {0, 1, 101, 201};
        for (int i = 0; i < more.length; i++) {
            x.years(more[i]);
            c.agreed(x, "12: the year of PIECE " + i, x.about(x.piece(3, 0, 0, 1), 2), due[i]);
        }
        c.agreed(x, "12: the year of the first, later", x.about(0, 2), 0);
    }

    /** 11: "A new PIECE, FREE"; Terms 1: "WEAR, 0 at first". */
    private static void newOnesAreFreeAndUnworn() {
        WheelYard x = Yards.withTyre();
        x.turn(0, 100000);
        for (int sort = 0; sort <= 5; sort++) {
            int p = x.piece(sort, 0, 0, 1);
            c.agreed(x, "12: WEAR of a new one", x.about(p, 5), 0);
            c.agreed(x, "12: WHEEL of a new one", x.about(p, 6), NONE);
            c.agreed(x, "12: place of a new one", x.about(p, 7), NONE);
        }
        c.due("11: count(2)", x.count(2), 6);
    }

    /** 12: "NONE: 3". */
    private static void aboutWhichPiece() {
        int[] counts = {0, 1, 199, 200};
        for (int count : counts) {
            WheelYard x = new WheelYard();
            Yards.pieces(x, count, 5, 0, 7);
            for (int p : Checks.outside(0, count - 1)) {
                c.refused(x, "12: about(" + p + ", 0) of " + count, x.about(p, 0), 3);
            }
            if (count > 0) {
                c.agreed(x, "12: about(0, 4) of " + count, x.about(0, 4), 7);
                c.agreed(x, "12: about(" + (count - 1) + ", 4)", x.about(count - 1, 4), 7);
            }
        }
    }

    /** 12: "what 0 .. 8 .. NONE: 17". */
    private static void aboutWhat() {
        WheelYard x = new WheelYard();
        x.years(6);
        x.piece(1, 2, 3, 4);
        int[] due = {1, 2, 6, 3, 4, 0, NONE, NONE, 0};
        for (int what = 0; what <= 8; what++) {
            c.agreed(x, "12: about(0, " + what + ")", x.about(0, what), due[what]);
        }
        for (int what : Checks.outside(0, 8)) {
            c.refused(x, "12: about(0, " + what + ")", x.about(0, what), 17);
        }
    }

    /** 12: 3 ahead of 17. */
    private static void aboutAsksThePieceFirst() {
        WheelYard x = new WheelYard();
        x.piece(1, 2, 3, 4);
        for (int p : Checks.outside(0, 0)) {
            for (int what : Checks.outside(0, 8)) {
                c.refused(x, "12: about(" + p + ", " + what + ")", x.about(p, what), 3);
            }
        }
    }

    /** 12: "(NONE both of TYRES and STRAKES) .. (likewise) .. TYRES and STRAKES 1". */
    private static void aboutIron() {
        for (int sort = 4; sort <= 5; sort++) {
            WheelYard x = new WheelYard();
            x.dampRow(0, 60, 100);
            x.years(3);
            x.piece(sort, 0, 0, 12);
            int[] due = {sort, NONE, NONE, NONE, 12, 0, NONE, NONE, 1};
            for (int what = 0; what <= 8; what++) {
                c.agreed(x, "12: about(0, " + what + ") of SORT " + sort, x.about(0, what), due[what]);
            }
            x.years(100);
            c.agreed(x, "12: after 100 years", x.about(0, 8), 1);
        }
    }

    /** 12: "6 its WHEEL, 7 its place there (NONE both if FREE)". */
    private static void aboutPlaces() {
        WheelYard x = new WheelYard();
        x.dampRow(0, 1, 0);
        for (int w = 0; w < 20; w++) {
            x.wheel(16, 30, 1, 1);
        }
        int nave = x.piece(0, 0, 0, 16);
        int strake = x.piece(5, 0, 0, 1);
        x.put(0, 0, nave);
        x.put(19, 40, strake);
        c.agreed(x, "12: the first WHEEL", x.about(nave, 6), 0);
        c.agreed(x, "12: the first place", x.about(nave, 7), 0);
        c.agreed(x, "12: the last WHEEL", x.about(strake, 6), 19);
        c.agreed(x, "12: the last place", x.about(strake, 7), 40);
        x.out(0, 0);
        x.out(19, 40);
        for (int p = nave; p <= strake; p++) {
            c.agreed(x, "12: a FREE one's WHEEL", x.about(p, 6), NONE);
            c.agreed(x, "12: a FREE one's place", x.about(p, 7), NONE);
        }
    }

    /** Terms 1: "it is DRY if that is known, and 20 at most". */
    private static void aboutDampOfTwenty() {
        WheelYard x = new WheelYard();
        x.dampRow(0, 1, 0);
        int p = x.piece(2, 0, 0, 1);
        for (int v = 0; v <= 100; v++) {
            x.damp(0, 0, v);
            c.agreed(x, "12: about(0, 8) of DAMP " + v, x.about(p, 8), v <= 20 ? 1 : 0);
        }
    }

    /** Terms 1: "has a number for these years (the first for year 0)": ages to the last number, and one more. */
    private static void aboutAges() {
        int[] lengths = {0, 1, 2, 59, 60};
        for (int n : lengths) {
            WheelYard x = new WheelYard();
            x.dampRow(0, n, 20);
            x.years(5);
            int p = x.piece(2, 0, 0, 1);
            for (int age = 0; age <= 62; age++) {
                c.agreed(x, "12: about(0, 8), " + age + " years old, of " + n, x.about(p, 8), age < n ? 1 : 0);
                x.years(1);
            }
            c.agreed(x, "12: a new one", x.about(x.piece(2, 0, 0, 1), 8), n > 0 ? 1 : 0);
        }
    }

    /** Terms 1: "known if its ROW is not MISSING", and its own WOOD's ROW it is. */
    private static void aboutWithoutRow() {
        WheelYard x = new WheelYard();
        for (int wood = 0; wood <= 3; wood++) {
            x.piece(1, wood, 0, 1);
        }
        for (int dry = 0; dry <= 3; dry++) {
            x.dampRow(dry, 1, 20);
            for (int wood = 0; wood <= 3; wood++) {
                c.agreed(x, "12: about(" + wood + ", 8)", x.about(wood, 8), wood == dry ? 1 : 0);
            }
            x.dampRow(dry, NONE, 20);
        }
    }
}
