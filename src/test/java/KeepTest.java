/** Promises 31 to 33: what is KEPT, what comes back, and what is counted. */
public final class KeepTest {
    private static final int NONE = WheelYard.NONE;
    private static final Checks c = new Checks();

    public static void main(String[] args) {
        undoWithoutKeep();
        placesComeBack();
        wearAndYearComeBack();
        whatIsMadeSinceIsGone();
        numbersAreUsedAnew();
        itStaysKept();
        keepReplaces();
        whatIsNotKept();
        counts();
        countsOfDryOnes();
        c.end();
    }

    private static void undoWithoutKeep() {
        WheelYard x = Yards.withTyre();
        x.years(2);
        c.due("32: undo()", x.undo() ? 1 : 0, 0);
        c.due("32: PIECES stay", x.count(1), 18);
        c.due("32: the YEAR stays", x.count(0), 2);
        c.due("32: the WHEEL stays TRUE", x.count(4), 1);
        WheelYard bare = new WheelYard();
        bare.keep();
        bare.wheel(8, 30, 1, 1);
        bare.piece(4, 0, 0, 1);
        c.yes("32: undo() to nothing at all", bare.undo());
        c.due("32: no PIECES", bare.count(1), 0);
        c.due("32: no WHEELS", bare.count(3), 0);
    }

    private static void placesComeBack() {
        WheelYard x = Yards.withTyre();
        x.wheel(8, 100, 10, 101);
        x.keep();
        x.out(0, 3);
        x.out(0, 10);
        x.put(1, 3, 10);
        x.put(1, 1, 3);
        x.put(0, 3, x.piece(1, 0, 0, 100));
        c.yes("32: undo()", x.undo());
        for (int place = 0; place <= 17; place++) {
            c.due("32: at(0, " + place + ")", x.at(0, place), place);
            c.due("32: WHEEL of " + place, x.about(place, 6), 0);
            c.due("32: place of " + place, x.about(place, 7), place);
            c.due("32: at(1, " + place + ")", x.at(1, place), NONE);
        }
        c.due("32: told(0, 7)", x.told(0, 7), 1);
        c.due("32: told(1, 5)", x.told(1, 5), 0);
        c.due("32: gap(0, 3)", x.gap(0, 3), 3);
        WheelYard y = Yards.withFramedWheel();
        y.out(0, 0);
        y.keep();
        y.put(0, 0, 0);
        y.undo();
        c.due("32: what was FREE is", y.about(0, 6), NONE);
        c.refused(y, "32: and its place is empty", y.at(0, 0), 5);
    }

    private static void wearAndYearComeBack() {
        WheelYard x = Yards.withTyre();
        x.years(2);
        x.turn(0, 5);
        x.keep();
        x.turn(0, 100);
        x.years(50);
        x.undo();
        int[] pieces = {0, 1, 9, 13, 17};
        int[] wears = {5, 10, 15, 5, 20};
        for (int i = 0; i < pieces.length; i++) {
            c.due("32: WEAR of " + pieces[i], x.about(pieces[i], 5), wears[i]);
        }
        c.due("32: the YEAR", x.count(0), 2);
        c.agreed(x, "32: the YEAR goes on", x.years(1), 3);
    }

    private static void whatIsMadeSinceIsGone() {
        WheelYard x = Yards.withFramedWheel();
        x.keep();
        x.piece(4, 0, 0, 610);
        x.tyre(0, 17, 50);
        x.wheel(8, 100, 10, 101);
        x.put(1, 17, x.piece(5, 0, 0, 1));
        x.undo();
        c.due("32: count(1)", x.count(1), 17);
        c.due("32: count(3)", x.count(3), 1);
        c.refused(x, "32: about(17, 0)", x.about(17, 0), 3);
        c.refused(x, "32: told(1, 0)", x.told(1, 0), 1);
        c.refused(x, "32: at(0, 17)", x.at(0, 17), 5);
        c.due("32: told(0, 6)", x.told(0, 6), 0);
    }

    private static void numbersAreUsedAnew() {
        WheelYard x = Yards.withTyre();
        x.keep();
        x.wheel(8, 30, 1, 1);
        x.put(1, 0, x.piece(0, 0, 3, 8));
        x.undo();
        c.agreed(x, "32: wheel 1 anew", x.wheel(10, 40, 2, 101), 1);
        c.agreed(x, "32: piece 18 anew", x.piece(4, 0, 0, 77), 18);
        c.due("32: told(1, 0)", x.told(1, 0), 10);
        c.due("32: told(1, 5)", x.told(1, 5), 0);
        c.due("32: told(1, 8)", x.told(1, 8), 26);
        int[] due = {4, NONE, NONE, NONE, 77, 0, NONE, NONE, 1};
        for (int what = 0; what < due.length; what++) {
            c.due("32: about(18, " + what + ")", x.about(18, what), due[what]);
        }
        WheelYard worn = Yards.withFramedWheel();
        worn.keep();
        worn.tyre(0, worn.piece(4, 0, 0, 610), 50);
        worn.turn(0, 3);
        c.due("32: WEAR of the TYRE", worn.about(17, 5), 12);
        worn.undo();
        c.agreed(worn, "32: piece 17 anew", worn.piece(4, 0, 0, 610), 17);
        c.due("32: it has no WEAR", worn.about(17, 5), 0);
        c.due("32: it is FREE", worn.about(17, 6), NONE);
        WheelYard full = new WheelYard();
        full.keep();
        Yards.pieces(full, 200, 4, 0, 1);
        c.refused(full, "32: 200 are", full.piece(4, 0, 0, 1), 17);
        full.undo();
        c.agreed(full, "32: there is room again", full.piece(4, 0, 0, 1), 0);
    }

    private static void itStaysKept() {
        WheelYard x = Yards.withTyre();
        x.keep();
        for (int i = 0; i < 3; i++) {
            x.turn(0, 7);
            x.out(0, 4);
            x.years(1);
            c.yes("32: undo() again", x.undo());
            c.due("32: at(0, 4)", x.at(0, 4), 4);
            c.due("32: at(0, 17)", x.at(0, 17), 17);
            c.due("32: WEAR", x.about(4, 5), 0);
            c.due("32: the YEAR", x.count(0), 0);
        }
    }

    private static void keepReplaces() {
        WheelYard x = Yards.withTyre();
        x.keep();
        x.turn(0, 1);
        x.years(1);
        x.out(0, 17);
        x.piece(5, 0, 0, 1);
        x.keep();
        x.put(0, 20, 18);
        x.years(1);
        x.undo();
        c.due("31: the YEAR", x.count(0), 1);
        c.due("31: PIECES", x.count(1), 19);
        c.due("31: WEAR", x.about(17, 5), 4);
        c.due("31: what was FREE is", x.count(2), 2);
        c.due("31: told(0, 6)", x.told(0, 6), 0);
    }

    private static void whatIsNotKept() {
        WheelYard x = Yards.withBareWheel();
        for (int place = 0; place < Yards.RIM; place++) {
            Yards.pieceFor(x, place);
        }
        x.keep();
        x.dampRow(0, 2, 5);
        x.strength(0, 7);
        x.heatRow(-1, 0);
        x.piece(0, 0, 0, 8);
        x.put(0, 0, 0);
        x.plan(0);
        c.due("29: planned(1)", x.planned(1), 1);
        c.refused(x, "32: a refused call ahead of undo()", x.at(5, 0), 1);
        x.undo();
        c.due("32: why() stays", x.why(), 1);
        c.due("32: the DAMP ROW stays", x.dampAt(0, 1), 5);
        c.due("32: it stays short", x.dampAt(0, 2), NONE);
        c.due("32: the STRENGTH stays", x.bears(1), 7 * 20 * 115);
        c.refused(x, "32: the HEAT ROW stays MISSING", x.heated(1, 0), 11);
        c.due("32: the latest PLAN stays", x.planned(1), 1);
        c.due("32: the latest PLAN stays", x.planned(0), NONE);
        WheelYard gone = new WheelYard();
        gone.keep();
        gone.dampRow(0, 1, 0);
        gone.wheel(8, 100, 10, 101);
        for (int place = 0; place < Yards.RIM; place++) {
            Yards.pieceFor(gone, place);
        }
        gone.fill(0);
        gone.undo();
        c.due("32: a PLAN for a WHEEL that is no more", gone.planned(16), 16);
    }

    private static void counts() {
        WheelYard x = Yards.withTyre();
        x.wheel(8, 100, 10, 101);
        x.piece(5, 0, 0, 1);
        x.years(9);
        int[] due = {9, 19, 1, 2, 1, 0};
        for (int what = 0; what < due.length; what++) {
            c.due("33: count(" + what + ")", x.count(what), due[what]);
        }
        c.due("33: count(6)", x.count(6), NONE);
        c.due("33: count(-1)", x.count(-1), NONE);
        x.out(0, 9);
        int[] then = {9, 19, 3, 2, 0, 1};
        for (int what = 0; what < then.length; what++) {
            c.due("33: count(" + what + ")", x.count(what), then[what]);
        }
        WheelYard straked = Yards.withStrakes();
        c.due("33: TRUE with STRAKES", straked.count(4), 1);
        straked.out(0, 18);
        c.due("33: not TRUE", straked.count(4), 0);
    }

    private static void countsOfDryOnes() {
        WheelYard x = new WheelYard();
        x.dampRow(0, 3, 21);
        x.damp(0, 1, 20);
        x.dampRow(1, 3, 0);
        for (int sort = 0; sort <= 5; sort++) {
            x.piece(sort, 0, 0, 8);
            x.piece(sort, 1, 0, 8);
            x.piece(sort, 2, 0, 8);
        }
        int[] due = {4, 8, 4, 0};
        for (int year = 0; year < due.length; year++) {
            c.due("33: count(5) in year " + year, x.count(5), due[year]);
            x.years(1);
        }
    }
}
