/** Promises 28 to 30: PLANS and what they fill. ROUND is 628, LONG 100. */
public final class PlanTest {
    private static final int NONE = WheelYard.NONE;
    private static final Checks c = new Checks();

    public static void main(String[] args) {
        planOfAll();
        planTakesLeastNumbers();
        planTakesLeastArcs();
        planOfFelloesAlone();
        planNeedsWhatFits();
        planNeedsFreePieces();
        planYears();
        planLooksSixtyYearsAhead();
        planLooksAtEachYearAnew();
        planCountsArcsThatAreThere();
        planOfNothing();
        plannedIsOfTheLatest();
        fill();
        fillReasons();
        fillTellsPlanned();
        c.end();
    }

    /** PIECES 0 to 16, in the order of places, of WOOD 0, which is always DRY. */
    private static WheelYard withAllPieces() {
        WheelYard x = Yards.withBareWheel();
        for (int place = 0; place < Yards.RIM; place++) {
            Yards.pieceFor(x, place);
        }
        return x;
    }

    private static void planOfAll() {
        WheelYard x = withAllPieces();
        c.refused(x, "28: plan(1)", x.plan(1), 1);
        c.refused(x, "28: plan(-1)", x.plan(-1), 1);
        c.due("29: planned(0) ahead of any", x.planned(0), NONE);
        c.agreed(x, "28: plan(0)", x.plan(0), 0);
        for (int place = 0; place < Yards.RIM; place++) {
            c.due("29: planned(" + place + ")", x.planned(place), place);
        }
        int[] nowhere = {17, 20, 21, 40, 41, -1, Integer.MAX_VALUE, Integer.MIN_VALUE};
        for (int place : nowhere) {
            c.due("29: planned(" + place + ")", x.planned(place), NONE);
        }
        c.due("28: nothing came", x.told(0, 5), 0);
    }

    private static void planTakesLeastNumbers() {
        WheelYard x = Yards.withBareWheel();
        Yards.pieces(x, 1, 0, 0, 10);
        Yards.pieces(x, 2, 0, 0, 8);
        Yards.pieces(x, 1, 1, 0, 99);
        Yards.pieces(x, 9, 1, 0, 100);
        x.piece(2, 0, 0, 9);
        x.piece(2, 0, 0, 3);
        x.piece(2, 0, 0, 7);
        x.piece(2, 0, 0, 1);
        x.piece(2, 0, 0, 1);
        Yards.pieces(x, 4, 3, 0, 150);
        x.put(0, 3, 6);
        c.agreed(x, "28: plan(0)", x.plan(0), 0);
        int[] due = {1, 4, 5, NONE, 7, 8, 9, 10, 11, 18, 19, 20, 21, 13, 14, 15, 16};
        for (int place = 0; place < due.length; place++) {
            c.due("29: planned(" + place + ")", x.planned(place), due[place]);
        }
    }

    private static void planTakesLeastArcs() {
        WheelYard x = withAllPieces();
        int[] arcs = {149, 151, 149, 160, 140, 150};
        for (int arc : arcs) {
            x.piece(3, 0, 0, arc);
        }
        c.agreed(x, "28: plan(0)", x.plan(0), 0);
        int[] due = {21, 17, 19, 9};
        for (int i = 0; i < due.length; i++) {
            c.due("29: planned(" + (9 + i) + ")", x.planned(9 + i), due[i]);
        }
        x.put(0, 10, 20);
        c.agreed(x, "28: plan(0) with a FELLOE there", x.plan(0), 0);
        int[] then = {21, NONE, 17, 19};
        for (int i = 0; i < then.length; i++) {
            c.due("29: planned(" + (9 + i) + ")", x.planned(9 + i), then[i]);
        }
    }

    private static void planOfFelloesAlone() {
        WheelYard x = Yards.withFramedWheel();
        x.out(0, 9);
        x.out(0, 12);
        x.piece(3, 0, 0, 149);
        x.piece(3, 0, 0, 151);
        x.piece(3, 0, 0, 148);
        c.agreed(x, "28: plan(0)", x.plan(0), 0);
        c.due("29: planned(9)", x.planned(9), 19);
        c.due("29: planned(12)", x.planned(12), 17);
        c.agreed(x, "30: fill(0)", x.fill(0), 2);
        c.due("30: at(0, 12)", x.at(0, 12), 17);
    }

    private static void planNeedsWhatFits() {
        int[] lacking = {0, 1, 9, 13};
        int[] misfits = {9, 101, 179, 0};
        for (int i = 0; i < lacking.length; i++) {
            WheelYard x = Yards.withBareWheel();
            for (int place = 0; place < Yards.RIM; place++) {
                if (place != lacking[i]) {
                    Yards.pieceFor(x, place);
                }
            }
            c.agreed(x, "28: no PIECE for " + lacking[i], x.plan(0), NONE);
            c.refused(x, "30: no PIECE for " + lacking[i], x.fill(0), 9);
            int sort = i == 2 ? 3 : i == 3 ? 2 : i;
            if (misfits[i] > 0) {
                x.piece(sort, 0, 0, misfits[i]);
                c.agreed(x, "28: a misfit for " + lacking[i], x.plan(0), NONE);
            }
            Yards.pieceFor(x, lacking[i]);
            c.agreed(x, "28: a fitting one for " + lacking[i], x.plan(0), 0);
        }
    }

    private static void planNeedsFreePieces() {
        WheelYard x = withAllPieces();
        x.wheel(8, 100, 10, 101);
        x.put(1, 5, 2);
        c.agreed(x, "28: a SPOKE is not FREE", x.plan(0), NONE);
        c.agreed(x, "28: but for the other WHEEL", x.plan(1), 0);
        c.due("29: planned(5)", x.planned(5), NONE);
        c.due("29: planned(6)", x.planned(6), 6);
        x.out(1, 5);
        c.agreed(x, "28: it is FREE again", x.plan(0), 0);
    }

    private static void planYears() {
        WheelYard dry = withAllPieces();
        for (int sort = 0; sort <= 3; sort++) {
            WheelYard x = Yards.withBareWheel();
            x.dampRow(1, 10, 21);
            x.damp(1, 5, 20);
            x.years(3);
            for (int p = 0; p < Yards.RIM; p++) {
                int wood = dry.about(p, 0) == sort ? 1 : 0;
                x.piece(dry.about(p, 0), wood, 0, dry.about(p, 4));
            }
            c.agreed(x, "28: SORT " + sort + " is DRY in 5 years", x.plan(0), 8);
            x.years(5);
            c.agreed(x, "28: 5 years later", x.plan(0), 8);
            c.agreed(x, "30: 5 years later", x.fill(0), 17);
        }
    }

    private static void planLooksSixtyYearsAhead() {
        // Of WOOD 0, cut in the YEAR 0, the row ends with year 59: there are 59 years to look ahead.
        WheelYard x = new WheelYard();
        x.dampRow(0, 60, 21);
        x.damp(0, 59, 20);
        x.wheel(8, 100, 10, 101);
        for (int place = 0; place < Yards.RIM; place++) {
            Yards.pieceFor(x, place);
        }
        c.agreed(x, "28: 59 years ahead", x.plan(0), 59);
        c.refused(x, "30: a later year", x.fill(0), 9);
        x.years(59);
        c.agreed(x, "28: this YEAR", x.plan(0), 59);
        x.years(1);
        c.agreed(x, "28: the row is over", x.plan(0), NONE);
    }

    private static void planLooksAtEachYearAnew() {
        // WOOD 1 is DRY after 1 and 3 years, WOOD 2 after 2 and 3: only in year 3 both are.
        WheelYard x = Yards.withBareWheel();
        x.dampRow(1, 5, 50);
        x.damp(1, 1, 0);
        x.damp(1, 3, 0);
        x.dampRow(2, 5, 50);
        x.damp(2, 2, 0);
        x.damp(2, 3, 0);
        x.piece(0, 1, 0, 8);
        for (int place = 1; place < Yards.RIM; place++) {
            Yards.pieceFor(x, place);
        }
        x.put(0, 1, 1);
        x.piece(1, 2, 0, 100);
        c.agreed(x, "28: NAVE of WOOD 1, last SPOKE to spare", x.plan(0), 1);
        x.put(0, 2, 2);
        x.wheel(8, 100, 10, 101);
        x.put(1, 1, 3);
        c.agreed(x, "28: NAVE of WOOD 1, a SPOKE of WOOD 2", x.plan(0), 3);
        c.due("29: planned(8)", x.planned(8), 17);
        c.due("29: planned(0)", x.planned(0), 0);
        // FELLOES of less arc that are DRY only then make room only then.
        WheelYard y = withAllPieces();
        y.out(0, 0);
        y.dampRow(1, 3, 90);
        y.damp(1, 2, 20);
        y.put(0, 9, y.piece(3, 0, 0, 179));
        c.agreed(y, "28: arcs of 629", y.plan(0), NONE);
        y.piece(3, 1, 0, 149);
        c.agreed(y, "28: arcs of 628 in 2 years", y.plan(0), 2);
        c.due("29: planned(10)", y.planned(10), 18);
        c.due("29: planned(11)", y.planned(11), 9);
    }

    private static void planCountsArcsThatAreThere() {
        WheelYard x = withAllPieces();
        x.put(0, 12, x.piece(3, 0, 0, 178));
        c.agreed(x, "28: arcs of 628", x.plan(0), 0);
        c.agreed(x, "30: arcs of 628", x.fill(0), 16);
        c.due("30: space(0)", x.space(0), 0);
        c.due("30: FELLOE to spare", x.about(12, 6), NONE);
    }

    private static void planOfNothing() {
        WheelYard x = Yards.withTyre();
        x.plan(0);
        x.years(4);
        c.agreed(x, "28: plan(0) of a TRUE WHEEL", x.plan(0), 4);
        for (int place = 0; place <= 20; place++) {
            c.due("29: planned(" + place + ")", x.planned(place), NONE);
        }
        c.agreed(x, "30: fill(0) of a TRUE WHEEL", x.fill(0), 0);
        c.due("30: the TYRE stays", x.told(0, 7), 1);
        WheelYard y = new WheelYard();
        y.wheel(8, 100, 10, 101);
        c.agreed(y, "28: no PIECES", y.plan(0), NONE);
    }

    private static void plannedIsOfTheLatest() {
        WheelYard x = withAllPieces();
        x.wheel(10, 100, 10, 101);
        x.plan(0);
        c.agreed(x, "28: none for WHEEL 1", x.plan(1), NONE);
        c.refused(x, "28: no WHEEL 2", x.plan(2), 1);
        c.refused(x, "30: none for WHEEL 1", x.fill(1), 9);
        c.due("29: planned(16) as it was", x.planned(16), 16);
        x.put(0, 16, 16);
        c.due("29: planned(16) as it was", x.planned(16), 16);
        x.plan(0);
        c.due("29: planned(16), that place having one", x.planned(16), NONE);
        c.due("29: planned(13)", x.planned(13), 13);
        c.due("29: planned(15)", x.planned(15), 15);
    }

    private static void fill() {
        WheelYard x = withAllPieces();
        x.put(0, 2, 5);
        c.agreed(x, "30: fill(0)", x.fill(0), 16);
        c.due("30: told(0, 5)", x.told(0, 5), 17);
        c.due("30: missing(0)", x.missing(0), 17);
        c.due("30: count(2)", x.count(2), 0);
        int[] due = {0, 1, 5, 2, 3, 4, 6, 7, 8, 9, 10, 11, 12, 13, 14, 15, 16};
        for (int place = 0; place < due.length; place++) {
            c.due("30: at(0, " + place + ")", x.at(0, place), due[place]);
            c.due("30: WHEEL of " + due[place], x.about(due[place], 6), 0);
            c.due("30: place of " + due[place], x.about(due[place], 7), place);
            c.due("30: planned(" + place + ")", x.planned(place), place == 2 ? NONE : due[place]);
        }
    }

    private static void fillReasons() {
        WheelYard x = withAllPieces();
        c.refused(x, "30: fill(1)", x.fill(1), 1);
        c.refused(x, "30: fill(-1)", x.fill(-1), 1);
        x.damp(0, 0, 21);
        c.refused(x, "30: a later year", x.fill(0), 9);
        c.due("30: nothing came", x.told(0, 5), 0);
        c.due("30: all are FREE", x.count(2), 17);
        x.dampRow(0, -1, 0);
        c.refused(x, "30: no PLAN", x.fill(0), 9);
        x.dampRow(0, 1, 20);
        c.agreed(x, "30: fill(0)", x.fill(0), 17);
    }

    /** planned() is as by plan(), also where the PLAN is one for a later year. */
    private static void fillTellsPlanned() {
        WheelYard x = withAllPieces();
        x.fill(0);
        c.due("30: planned(0)", x.planned(0), 0);
        x.fill(0);
        c.due("30: planned(0), nothing being missing", x.planned(0), NONE);
        WheelYard y = withAllPieces();
        y.damp(0, 0, 21);
        c.refused(y, "30: a later year", y.fill(0), 9);
        c.due("30: planned(12)", y.planned(12), 12);
    }
}
