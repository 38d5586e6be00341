/** Each sentence of promises 31 to 33, and of what Terms 4 says of what can be KEPT, that names a bound. */
public final class BoundsOfKeepingTest {
    private static final int NONE = WheelYard.NONE;
    private static final Checks c = new Checks();

    public static void main(String[] args) {
        undoOfNothingKept();
        undoToAnEmptyYard();
        undoToAFullYard();
        undoTwice();
        undoAfterUndoAndMore();
        keepInPlaceOfWhatWas();
        keepNothingNew();
        piecesMadeSince();
        wheelsMadeSince();
        wheelsMadeSinceGiveBackWhatTheyHad();
        wheelsMadeAnewAreEmpty();
        piecesMadeAnewAreNew();
        placesOfAllSorts();
        placesThatWereEmpty();
        wearOfAll();
        theYear();
        theYearTellsDampAgain();
        rowsAreNotKept();
        strengthsAreNotKept();
        theLatestPlanIsNotKept();
        shapesStay();
        countWhat();
        countOfNothing();
        countFreeOnes();
        countTrueOnes();
        countDryOnes();
        countAfterUndo();
        c.end();
    }

    /** 32: "false, if nothing is"; and nothing changes. */
    private static void undoOfNothingKept() {
        WheelYard x = Yards.withTyre();
        x.years(4);
        x.turn(0, 9);
        x.out(0, 17);
        c.due("32: undo()", x.undo() ? 1 : 0, 0);
        c.due("32: undo() again", x.undo() ? 1 : 0, 0);
        c.due("32: the YEAR", x.count(0), 4);
        c.due("32: PIECES", x.count(1), 18);
        c.due("32: FREE ones", x.count(2), 1);
        c.due("32: WEAR", x.about(17, 5), 36);
        c.agreed(x, "32: at(0, 16)", x.at(0, 16), 16);
    }

    /** 32: down to no PIECES, no WHEELS, and the YEAR 0. */
    private static void undoToAnEmptyYard() {
        WheelYard x = new WheelYard();
        x.keep();
        x.dampRow(0, 60, 10);
        x.years(5);
        x.wheel(8, 100, 10, 101);
        Yards.frame(x, 0, 28);
        c.yes("32: undo()", x.undo());
        int[] due = {0, 0, 0, 0, 0, 0};
        for (int what = 0; what < due.length; what++) {
            c.due("32: count(" + what + ")", x.count(what), due[what]);
        }
        c.refused(x, "32: about(0, 0)", x.about(0, 0), 3);
        c.refused(x, "32: told(0, 0)", x.told(0, 0), 1);
        c.yes("32: undo() stays possible", x.undo());
    }

    /** 32: with as many PIECES and WHEELS as there may be. */
    private static void undoToAFullYard() {
        WheelYard x = Yards.withTyre();
        Yards.pieces(x, 181, 2, 0, 1);
        int strake = x.piece(5, 0, 0, 1);
        for (int w = 1; w < 20; w++) {
            x.wheel(8, 100, 10, 101);
        }
        x.put(19, 13, 18);
        x.put(19, 20, strake);
        x.keep();
        x.out(19, 20);
        x.out(19, 13);
        x.put(18, 20, strake);
        x.out(0, 0);
        c.yes("32: undo()", x.undo());
        c.due("32: PIECES", x.count(1), 200);
        c.due("32: WHEELS", x.count(3), 20);
        c.agreed(x, "32: at(19, 20)", x.at(19, 20), 199);
        c.agreed(x, "32: at(19, 13)", x.at(19, 13), 18);
        c.refused(x, "32: at(18, 20)", x.at(18, 20), 5);
        c.due("32: TRUE ones", x.count(4), 1);
        c.refused(x, "32: there is no room for a PIECE", x.piece(2, 0, 0, 1), 17);
        c.refused(x, "32: there is no room for a WHEEL", x.wheel(8, 30, 1, 1), 17);
    }

    /** 32: "it stays KEPT". */
    private static void undoTwice() {
        WheelYard x = Yards.withStrakes();
        x.turn(0, 2);
        x.years(3);
        x.keep();
        for (int i = 0; i < 4; i++) {
            x.turn(0, 100 + i);
            x.years(i);
            x.out(0, 17 + i);
            x.piece(4, 0, 0, 1);
            x.wheel(8, 30, 1, 1);
            c.yes("32: undo() number " + i, x.undo());
            c.yes("32: and at once again", x.undo());
            c.due("32: WEAR", x.about(17, 5), 8);
            c.due("32: the YEAR", x.count(0), 3);
            c.due("32: PIECES", x.count(1), 21);
            c.due("32: WHEELS", x.count(3), 1);
            c.due("32: TRUE ones", x.count(4), 1);
        }
    }

    private static void undoAfterUndoAndMore() {
        WheelYard x = Yards.withFramedWheel();
        x.keep();
        x.out(0, 16);
        x.undo();
        x.out(0, 0);
        x.keep();
        x.put(0, 0, 0);
        x.undo();
        c.refused(x, "31: what was FREE at the later keep()", x.at(0, 0), 5);
        c.agreed(x, "31: what was there at both", x.at(0, 16), 16);
    }

    /** 31: "(in place of what was)". */
    private static void keepInPlaceOfWhatWas() {
        WheelYard x = Yards.withTyre();
        x.keep();
        x.years(1);
        x.turn(0, 1);
        x.out(0, 17);
        x.wheel(8, 30, 1, 1);
        x.piece(5, 0, 0, 1);
        x.keep();
        x.years(1);
        x.tyre(0, 17, 50);
        x.turn(0, 1);
        x.undo();
        c.due("31: the YEAR", x.count(0), 1);
        c.due("31: PIECES", x.count(1), 19);
        c.due("31: WHEELS", x.count(3), 2);
        c.due("31: WEAR", x.about(9, 5), 3);
        c.refused(x, "31: no TYRE", x.at(0, 17), 5);
        // Fewer than at an earlier keep() may be KEPT, too.
        WheelYard y = new WheelYard();
        y.keep();
        Yards.pieces(y, 5, 2, 0, 1);
        y.keep();
        y.undo();
        c.due("31: 5 PIECES", y.count(1), 5);
    }

    private static void keepNothingNew() {
        WheelYard x = Yards.withTyre();
        x.keep();
        x.keep();
        c.yes("32: undo() at once", x.undo());
        c.due("32: PIECES", x.count(1), 18);
        c.due("32: TRUE ones", x.count(4), 1);
    }

    /** 32: "PIECES .. made since are no more". */
    private static void piecesMadeSince() {
        WheelYard x = Yards.withFramedWheel();
        x.out(0, 0);
        x.keep();
        int nave = x.piece(0, 0, 0, 8);
        x.put(0, 0, nave);
        x.tyre(0, x.piece(4, 0, 0, 610), 50);
        c.due("32: TRUE ones ahead of it", x.count(4), 1);
        x.undo();
        c.due("32: PIECES", x.count(1), 17);
        c.refused(x, "32: about(17, 0)", x.about(17, 0), 3);
        c.refused(x, "32: bears(17)", x.bears(17), 3);
        c.refused(x, "32: put(0, 0, 17)", x.put(0, 0, 17), 3);
        c.refused(x, "32: tyre(0, 18, 50)", x.tyre(0, 18, 50), 3);
        c.refused(x, "32: at(0, 0)", x.at(0, 0), 5);
        c.refused(x, "32: at(0, 17)", x.at(0, 17), 5);
        c.agreed(x, "32: told(0, 6)", x.told(0, 6), 0);
        c.agreed(x, "32: the place is free", x.put(0, 0, 0));
    }

    /** 32: "WHEELS made since are no more". */
    private static void wheelsMadeSince() {
        WheelYard x = Yards.withTyre();
        x.keep();
        x.wheel(8, 100, 10, 101);
        x.undo();
        c.due("32: WHEELS", x.count(3), 1);
        c.refused(x, "32: told(1, 0)", x.told(1, 0), 1);
        c.refused(x, "32: at(1, 0)", x.at(1, 0), 1);
        c.refused(x, "32: put(1, 0, 0)", x.put(1, 0, 0), 1);
        c.refused(x, "32: out(1, 0)", x.out(1, 0), 1);
        c.refused(x, "32: space(1)", x.space(1), 1);
        c.refused(x, "32: gap(1, 0)", x.gap(1, 0), 1);
        c.refused(x, "32: tyre(1, 17, 50)", x.tyre(1, 17, 50), 1);
        c.refused(x, "32: missing(1)", x.missing(1), 1);
        c.refused(x, "32: carries(1)", x.carries(1), 1);
        c.refused(x, "32: weakest(1)", x.weakest(1), 1);
        c.refused(x, "32: turn(1, 0)", x.turn(1, 0), 1);
        c.refused(x, "32: alike(0, 1, 0)", x.alike(0, 1, 0), 1);
        c.refused(x, "32: plan(1)", x.plan(1), 1);
        c.refused(x, "32: fill(1)", x.fill(1), 1);
    }

    private static void wheelsMadeSinceGiveBackWhatTheyHad() {
        WheelYard x = Yards.withTyre();
        x.piece(2, 0, 0, 1);
        x.keep();
        x.wheel(8, 100, 10, 101);
        for (int place = 0; place <= 16; place++) {
            int gone = x.out(0, place);
            x.put(1, place, gone);
        }
        x.tyre(1, 17, 50);
        c.agreed(x, "32: the later WHEEL is TRUE", x.told(1, 7), 1);
        x.undo();
        c.agreed(x, "32: the first WHEEL is TRUE", x.told(0, 7), 1);
        for (int p = 0; p <= 17; p++) {
            c.agreed(x, "32: the WHEEL of " + p, x.about(p, 6), 0);
            c.agreed(x, "32: the place of " + p, x.about(p, 7), p);
            c.agreed(x, "32: at(0, " + p + ")", x.at(0, p), p);
        }
        c.agreed(x, "32: what was FREE is", x.about(18, 6), NONE);
        WheelYard y = Yards.withBareWheel();
        y.piece(2, 0, 0, 1);
        y.keep();
        y.wheel(8, 100, 10, 101);
        y.put(1, 13, 0);
        y.undo();
        c.agreed(y, "32: FREE, its WHEEL being no more", y.about(0, 6), NONE);
        c.agreed(y, "32: and at no place", y.about(0, 7), NONE);
        c.due("32: FREE ones", y.count(2), 1);
    }

    private static void wheelsMadeAnewAreEmpty() {
        WheelYard x = Yards.withBareWheel();
        x.keep();
        x.wheel(16, 4000, 2000, 101);
        Yards.frame(x, 1, 28);
        Yards.strakes(x, 1);
        x.undo();
        c.agreed(x, "32: wheel 1 anew", x.wheel(16, 100, 10, 101), 1);
        int[] due = {16, 100, 10, 100, 628, 0, 0, 0, 41};
        for (int what = 0; what < due.length; what++) {
            c.agreed(x, "32: told(1, " + what + ")", x.told(1, what), due[what]);
        }
        for (int place = 0; place <= 40; place++) {
            c.refused(x, "32: at(1, " + place + ")", x.at(1, place), 5);
        }
        x.undo();
        c.agreed(x, "32: wheel 1 once more, smaller", x.wheel(8, 30, 1, 1), 1);
        c.refused(x, "32: it has no place 21", x.at(1, 21), 2);
        c.agreed(x, "32: missing(1)", x.missing(1), 0);
    }

    private static void piecesMadeAnewAreNew() {
        WheelYard x = Yards.withFramedWheel();
        x.years(2);
        x.keep();
        x.years(5);
        x.tyre(0, x.piece(4, 0, 0, 610), 50);
        x.turn(0, 50);
        x.undo();
        c.agreed(x, "32: piece 17 anew", x.piece(1, 3, 4, 99), 17);
        int[] due = {1, 3, 2, 4, 99, 0, NONE, NONE, 0};
        for (int what = 0; what < due.length; what++) {
            c.agreed(x, "32: about(17, " + what + ")", x.about(17, what), due[what]);
        }
    }

    /** Terms 4: "where PIECES are": at each place, a TYRE coming back without being HEATED. */
    private static void placesOfAllSorts() {
        for (int strakes = 0; strakes <= 1; strakes++) {
            WheelYard x = strakes == 1 ? Yards.withStrakes() : Yards.withTyre();
            int last = strakes == 1 ? 20 : 17;
            x.keep();
            for (int place = last; place >= 0; place--) {
                x.out(0, place);
            }
            x.heatRow(NONE, 0);
            x.dampRow(0, NONE, 0);
            c.due("32: all are FREE", x.count(2), last + 1);
            x.undo();
            for (int place = 0; place <= last; place++) {
                c.agreed(x, "32: at(0, " + place + ")", x.at(0, place), place);
                c.agreed(x, "32: the place of " + place, x.about(place, 7), place);
            }
            c.agreed(x, "32: told(0, 6)", x.told(0, 6), 1 + strakes);
            c.due("32: TRUE ones", x.count(4), 1);
        }
    }

    private static void placesThatWereEmpty() {
        WheelYard x = Yards.withFramedWheel();
        Yards.pieces(x, 4, 5, 0, 1);
        int tyre = x.piece(4, 0, 0, 610);
        x.keep();
        x.tyre(0, tyre, 50);
        x.undo();
        c.agreed(x, "32: no TYRE", x.told(0, 6), 0);
        for (int i = 0; i < 4; i++) {
            c.agreed(x, "32: a STRAKE, no TYRE being there", x.put(0, 17 + i, 17 + i));
        }
        x.undo();
        c.agreed(x, "32: no STRAKES", x.told(0, 6), 0);
        c.agreed(x, "32: a TYRE, no STRAKES being there", x.tyre(0, tyre, 50));
        c.refused(x, "32: at(0, 18)", x.at(0, 18), 5);
    }

    /** Terms 4: "their WEAR", of FREE ones, too. */
    private static void wearOfAll() {
        WheelYard x = Yards.withTyre();
        x.turn(0, 10);
        x.out(0, 17);
        x.keep();
        x.tyre(0, 17, 50);
        x.turn(0, 100000);
        c.due("32: WEAR of the TYRE ahead of it", x.about(17, 5), 400040);
        x.undo();
        int[] each = {1, 2, 1, 3, 4, 4};
        for (int p = 0; p <= 17; p++) {
            c.due("32: WEAR of " + p, x.about(p, 5), 10 * each[x.about(p, 0)]);
        }
    }

    /** Terms 4: "and the YEAR". */
    private static void theYear() {
        WheelYard x = new WheelYard();
        x.years(100);
        x.keep();
        x.years(100);
        x.undo();
        c.due("32: count(0)", x.count(0), 100);
        c.agreed(x, "32: years(1)", x.years(1), 101);
        x.undo();
        c.agreed(x, "32: years(0)", x.years(0), 100);
        c.agreed(x, "32: cut in the YEAR that came back", x.about(x.piece(2, 0, 0, 1), 2), 100);
    }

    private static void theYearTellsDampAgain() {
        WheelYard x = Yards.withTyre();
        x.dampRow(0, 1, 20);
        x.keep();
        x.years(1);
        c.agreed(x, "32: bears(0) a year later", x.bears(0), 0);
        c.agreed(x, "32: about(0, 8) a year later", x.about(0, 8), 0);
        x.undo();
        c.agreed(x, "32: bears(0)", x.bears(0), 200000);
        c.agreed(x, "32: about(0, 8)", x.about(0, 8), 1);
    }

    /** Terms 4: "(ROWS .. are not.)" */
    private static void rowsAreNotKept() {
        WheelYard x = new WheelYard();
        x.dampRow(0, 3, 10);
        x.dampRow(1, 3, 10);
        x.heatRow(5, 100);
        x.keep();
        x.dampRow(0, NONE, 0);
        x.damp(1, 1, 77);
        x.dampRow(2, 1, 5);
        x.heatRow(2, 50);
        x.undo();
        c.due("32: MISSING stays", x.dampAt(0, 0), NONE);
        c.due("32: a number stays", x.dampAt(1, 1), 77);
        c.due("32: a new ROW stays", x.dampAt(2, 0), 5);
        c.agreed(x, "32: the HEAT ROW stays", x.heated(2000, 1), 2001);
        c.refused(x, "32: and is as short", x.heated(2000, 2), 12);
        x.heatRow(NONE, 0);
        x.undo();
        c.refused(x, "32: MISSING stays", x.heated(2000, 1), 11);
    }

    /** Terms 4: "(.. STRENGTHS .. are not.)" */
    private static void strengthsAreNotKept() {
        WheelYard x = new WheelYard();
        x.dampRow(3, 1, 0);
        x.piece(2, 3, 0, 1);
        x.keep();
        x.strength(3, 1000);
        x.undo();
        c.agreed(x, "32: the STRENGTH stays", x.bears(0), 2400000);
    }

    /** Terms 4: "(.. the latest PLAN are not.)" */
    private static void theLatestPlanIsNotKept() {
        WheelYard x = Yards.withBareWheel();
        for (int place = 0; place < Yards.RIM; place++) {
            Yards.pieceFor(x, place);
        }
        x.keep();
        x.plan(0);
        x.undo();
        c.due("32: a PLAN made since stays", x.planned(16), 16);
        x.fill(0);
        x.keep();
        x.plan(0);
        c.due("29: planned(16), nothing being missing", x.planned(16), NONE);
        x.undo();
        c.due("32: the one KEPT at does not come back", x.planned(16), NONE);
    }

    /** What is not told as KEPT does not change either: shapes of WHEELS, and what PIECES are. */
    private static void shapesStay() {
        WheelYard x = Yards.withTyre();
        x.wheel(12, 300, 400, 101);
        x.keep();
        x.years(9);
        x.wheel(8, 30, 1, 1);
        x.undo();
        int[] due = {12, 300, 400, 500, 1884, 0, 0, 0, 31};
        for (int what = 0; what < due.length; what++) {
            c.agreed(x, "32: told(1, " + what + ")", x.told(1, what), due[what]);
        }
        int[] then = {3, 0, 0, 0, 150, 0, 0, 9, 1};
        for (int what = 0; what < then.length; what++) {
            c.agreed(x, "32: about(9, " + what + ")", x.about(9, what), then[what]);
        }
    }

    /** 33: "NONE for another what". */
    private static void countWhat() {
        WheelYard x = Yards.withTyre();
        for (int what : Checks.outside(0, 5)) {
            c.due("33: count(" + what + ")", x.count(what), NONE);
        }
        x.years(100);
        int[] due = {100, 18, 0, 1, 1, 0};
        for (int what = 0; what <= 5; what++) {
            c.due("33: count(" + what + ")", x.count(what), due[what]);
        }
    }

    private static void countOfNothing() {
        WheelYard x = new WheelYard();
        for (int what = 0; what <= 5; what++) {
            c.due("33: count(" + what + ") of nothing", x.count(what), 0);
        }
        for (int what : Checks.outside(0, 5)) {
            c.due("33: count(" + what + ") of nothing", x.count(what), NONE);
        }
    }

    /** 33: "2 FREE ones": of all SORTS, DRY or not. */
    private static void countFreeOnes() {
        WheelYard x = Yards.withStrakes();
        c.due("33: none is FREE", x.count(2), 0);
        for (int place = 0; place <= 20; place++) {
            x.out(0, place);
            c.due("33: FREE ones", x.count(2), place + 1);
        }
        for (int place = 0; place <= 20; place++) {
            x.put(0, place, place);
            c.due("33: FREE ones", x.count(2), 20 - place);
        }
        Yards.pieces(x, 179, 2, 3, 1);
        c.due("33: FREE and wet ones", x.count(2), 179);
        c.due("33: PIECES", x.count(1), 200);
    }

    /** 33: "4 TRUE ones". */
    private static void countTrueOnes() {
        WheelYard x = Yards.withBareWheel();
        int[] dueFirst = {0, 1, 1, 2, 3};
        for (int w = 0; w < 4; w++) {
            if (w > 0) {
                x.wheel(8, 100, 10, 101);
            }
            Yards.frame(x, w, 28);
            if (w % 2 == 0) {
                x.tyre(w, x.piece(4, 0, 0, 610), 50);
            } else if (w == 3) {
                Yards.strakes(x, w);
            }
            c.due("33: TRUE ones of " + (w + 1), x.count(4), dueFirst[w + 1]);
        }
        x.out(2, 3);
        c.due("33: TRUE ones, one being none now", x.count(4), 2);
        c.due("33: WHEELS", x.count(3), 4);
    }

    /** 33: "5 DRY PIECES of WOOD that are FREE". */
    private static void countDryOnes() {
        WheelYard x = Yards.withStrakes();
        c.due("33: none is FREE", x.count(5), 0);
        for (int place = 0; place <= 20; place++) {
            x.out(0, place);
            c.due("33: DRY and FREE ones", x.count(5), Math.min(17, place + 1));
        }
        x.dampRow(0, 2, 21);
        c.due("33: of DAMP 21", x.count(5), 0);
        x.damp(0, 1, 20);
        x.years(1);
        c.due("33: of DAMP 20", x.count(5), 17);
        x.piece(2, 0, 0, 1);
        c.due("33: a new one is not DRY", x.count(5), 17);
        x.years(1);
        c.due("33: a year later it alone is", x.count(5), 1);
        x.years(1);
        c.due("33: no DAMP is known", x.count(5), 0);
    }

    private static void countAfterUndo() {
        WheelYard x = Yards.withTyre();
        x.wheel(8, 100, 10, 101);
        Yards.pieces(x, 3, 2, 0, 1);
        x.years(6);
        x.keep();
        int[] due = {6, 21, 3, 2, 1, 3};
        x.out(0, 3);
        x.years(90);
        x.wheel(8, 30, 1, 1);
        x.piece(4, 0, 0, 1);
        x.undo();
        for (int what = 0; what <= 5; what++) {
            c.due("33: count(" + what + ") after undo()", x.count(what), due[what]);
        }
    }
}
