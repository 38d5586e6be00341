/** Each sentence of promises 28 to 30, and of what Terms 4 says of PLANS, that names a bound. ROUND is 628. */
public final class BoundsOfPlansTest {
    private static final int NONE = WheelYard.NONE;
    private static final int[] SPOKES = {8, 10, 12, 14, 16};
    private static final Checks c = new Checks();

    public static void main(String[] args) {
        planWhichWheel();
        planOfNoPieces();
        planOfNothingMissing();
        planThisYearOrTheNext();
        planOfEachYearAhead();
        planOfNoYear();
        planIsTheEarliest();
        planOfAllInOneYear();
        planOneTooFew();
        planOneTooFewIsNotFree();
        planOneTooFewDoesNotFit();
        planArcsUpToRound();
        planArcsWithThoseThere();
        planArcsOfALaterYear();
        planTakesLeastNumbers();
        planTakesLeastNumbersOfDryOnes();
        planTakesLeastArcs();
        planGoesToThePlacesInOrder();
        planLeavesTheRim();
        planChangesNothing();
        planOfAllTwoHundred();
        plannedWhichPlace();
        plannedIsOfTheLatestWheel();
        plannedStaysWithoutAPlan();
        plannedStaysWithOtherCalls();
        fillWhichWheel();
        fillWithoutAPlan();
        fillForALaterYear();
        fillOfNothingMissing();
        fillOfEachCount();
        fillTakesWhatThePlanTells();
        fillMakesStrakedWheelsTrue();
        fillTwoWheels();
        c.end();
    }

    /** PIECES for all places but the rim, FREE, in the order of places, FELLOES of 150. */
    private static WheelYard withAllPieces() {
        WheelYard x = Yards.withBareWheel();
        stock(x, NONE);
        return x;
    }

    /** The same, but for one place (NONE: for all). */
    private static void stock(WheelYard x, int without) {
        for (int place = 0; place < Yards.RIM; place++) {
            if (place != without) {
                Yards.pieceFor(x, place);
            }
        }
    }

    /** 28: "or 1". */
    private static void planWhichWheel() {
        WheelYard x = withAllPieces();
        for (int w : Checks.outside(0, 0)) {
            c.refused(x, "28: plan(" + w + ")", x.plan(w), 1);
            c.due("29: planned(0)", x.planned(0), NONE);
        }
        c.agreed(x, "28: plan(0)", x.plan(0), 0);
        WheelYard bare = new WheelYard();
        c.refused(bare, "28: no WHEELS at all", bare.plan(0), 1);
    }

    /** 28: "there is none (the REASON is 0)". */
    private static void planOfNoPieces() {
        for (int n : SPOKES) {
            WheelYard x = Yards.withBare(n, 100);
            x.told(1, 0);
            c.agreed(x, "28: no PIECES for " + n, x.plan(0), NONE);
            c.due("29: planned(0)", x.planned(0), NONE);
        }
    }

    /** Terms 4: "one for each of the places .. that have none": for none at all there is a PLAN for this YEAR. */
    private static void planOfNothingMissing() {
        WheelYard x = Yards.withFramedWheel();
        x.dampRow(0, NONE, 0);
        c.agreed(x, "28: all is there", x.plan(0), 0);
        x.years(100);
        c.agreed(x, "28: all is there in the YEAR 100", x.plan(0), 100);
        for (int place = 0; place <= 20; place++) {
            c.due("29: planned(" + place + ")", x.planned(place), NONE);
        }
        WheelYard tyred = Yards.withTyre();
        c.agreed(tyred, "28: a WHEEL that is TRUE", tyred.plan(0), 0);
    }

    /** Terms 4: "from this YEAR", and "20 at most" in it. */
    private static void planThisYearOrTheNext() {
        WheelYard x = Yards.withBareWheel();
        x.dampRow(0, 2, 21);
        x.damp(0, 1, 20);
        x.years(7);
        stock(x, NONE);
        c.agreed(x, "28: DRY in a year", x.plan(0), 8);
        x.damp(0, 0, 20);
        c.agreed(x, "28: DRY this YEAR", x.plan(0), 7);
        x.damp(0, 0, 21);
        x.damp(0, 1, 21);
        c.agreed(x, "28: never DRY", x.plan(0), NONE);
    }

    /** Terms 4: "the earliest year, from this YEAR to 60 years later": a ROW's numbers end 59 years later. */
    private static void planOfEachYearAhead() {
        for (int ahead = 0; ahead <= 59; ahead++) {
            WheelYard x = Yards.withBareWheel();
            x.dampRow(0, 60, 21);
            x.damp(0, ahead, 20);
            x.years(3);
            stock(x, NONE);
            c.agreed(x, "28: " + ahead + " years ahead", x.plan(0), 3 + ahead);
            c.due("29: planned(16)", x.planned(16), 16);
            x.years(ahead);
            c.agreed(x, "28: this YEAR, " + ahead + " years old", x.plan(0), 3 + ahead);
            x.years(1);
            c.agreed(x, "28: a year too late", x.plan(0), NONE);
            c.due("29: planned(16) as it was", x.planned(16), 16);
        }
    }

    /** Terms 1: a DAMP that is not known is not DRY, however long one waits. */
    private static void planOfNoYear() {
        WheelYard x = withAllPieces();
        x.dampRow(0, 0, 0);
        c.agreed(x, "28: a ROW of 0 numbers", x.plan(0), NONE);
        x.dampRow(0, NONE, 0);
        c.agreed(x, "28: MISSING", x.plan(0), NONE);
        x.dampRow(0, 60, 21);
        c.agreed(x, "28: all of 21", x.plan(0), NONE);
        x.dampRow(0, 60, 20);
        c.agreed(x, "28: all of 20", x.plan(0), 0);
        x.years(59);
        c.agreed(x, "28: 59 years old", x.plan(0), 59);
        x.years(1);
        c.agreed(x, "28: 60 years old", x.plan(0), NONE);
    }

    /** Terms 4: "the earliest year", of several. */
    private static void planIsTheEarliest() {
        WheelYard x = Yards.withBareWheel();
        x.dampRow(0, 60, 50);
        stock(x, NONE);
        for (int years = 59; years >= 0; years -= 2) {
            x.damp(0, years, 0);
            c.agreed(x, "28: DRY in " + years + " years and later", x.plan(0), years);
        }
    }

    /** Terms 4: "that would be DRY in it": all of them in that one year. */
    private static void planOfAllInOneYear() {
        for (int place = 0; place < Yards.RIM; place++) {
            WheelYard x = Yards.withBareWheel();
            x.dampRow(0, 60, 50);
            x.dampRow(1, 60, 50);
            x.damp(0, 2, 20);
            x.damp(0, 9, 20);
            x.damp(1, 4, 20);
            stock(x, place);
            int[] sizes = {8, 100, 1, 150};
            int sort = place == 0 ? 0 : place <= 8 ? 1 : place <= 12 ? 3 : 2;
            int late = x.piece(sort, 1, 0, sizes[sort]);
            c.agreed(x, "28: one of WOOD 1 for place " + place, x.plan(0), NONE);
            x.damp(1, 9, 20);
            c.agreed(x, "28: both are DRY in 9 years, place " + place, x.plan(0), 9);
            x.damp(1, 2, 20);
            c.agreed(x, "28: both are DRY in 2 years, place " + place, x.plan(0), 2);
            c.due("28: it is the last PIECE", late, 16);
        }
    }

    /** Terms 4: "one for each of the places": one PIECE too few, of each SORT. */
    private static void planOneTooFew() {
        int[] places = {0, 8, 12, 16};
        for (int place : places) {
            WheelYard x = Yards.withBareWheel();
            stock(x, place);
            c.agreed(x, "28: none for place " + place, x.plan(0), NONE);
            c.refused(x, "30: none for place " + place, x.fill(0), 9);
            Yards.pieceFor(x, place);
            c.agreed(x, "28: just enough", x.plan(0), 0);
            x.put(0, place, 16);
            c.agreed(x, "28: just enough for the others", x.plan(0), 0);
            c.due("29: planned(" + place + ")", x.planned(place), NONE);
        }
    }

    /** Terms 4: "FREE PIECES". */
    private static void planOneTooFewIsNotFree() {
        int[] places = {0, 1, 9, 13};
        for (int place : places) {
            WheelYard x = withAllPieces();
            x.wheel(8, 100, 10, 101);
            c.agreed(x, "28: all are FREE", x.plan(0), 0);
            x.put(1, place, place);
            c.agreed(x, "28: one is at " + place + " of another WHEEL", x.plan(0), NONE);
            c.agreed(x, "28: which needs no other there", x.plan(1), 0);
            x.out(1, place);
            c.agreed(x, "28: it is FREE again", x.plan(0), 0);
        }
    }

    /** Terms 4: "for the NAVE's and SPOKES' places such as FIT; DOWELS": of any size. */
    private static void planOneTooFewDoesNotFit() {
        int[] sizes = {7, 10, 99, 101};
        for (int i = 0; i < sizes.length; i++) {
            WheelYard x = Yards.withBareWheel();
            int place = i < 2 ? 0 : 5;
            stock(x, place);
            x.piece(place == 0 ? 0 : 1, 0, 0, sizes[i]);
            c.agreed(x, "28: one of " + sizes[i], x.plan(0), NONE);
            Yards.pieceFor(x, place);
            c.agreed(x, "28: one that FITS", x.plan(0), 0);
        }
        WheelYard y = Yards.withBareWheel();
        stock(y, 16);
        y.piece(2, 0, 0, 30000);
        c.agreed(y, "28: a DOWEL of 30000", y.plan(0), 0);
        c.due("29: planned(16)", y.planned(16), 16);
    }

    /** Terms 4: "if their arcs .. are ROUND at most". */
    private static void planArcsUpToRound() {
        for (int n : SPOKES) {
            int m = n / 2;
            for (int over = -1; over <= 1; over++) {
                WheelYard x = Yards.withBare(n, 100);
                x.piece(0, 0, 0, n);
                Yards.pieces(x, n, 1, 0, 100);
                Yards.pieces(x, m - 1, 3, 0, 70);
                x.piece(3, 0, 0, 628 - 70 * (m - 1) + over);
                Yards.pieces(x, m, 2, 0, 1);
                c.agreed(x, "28: arcs of ROUND and " + over, x.plan(0), over > 0 ? NONE : 0);
                c.due("30: fill(0)", x.fill(0), over > 0 ? NONE : 2 * n + 1);
                c.due("18: space(0)", x.space(0), over > 0 ? NONE : -over);
            }
        }
    }

    /** Terms 4: "their arcs and those that are there". */
    private static void planArcsWithThoseThere() {
        for (int there = 1; there <= 3; there++) {
            for (int over = 0; over <= 1; over++) {
                WheelYard x = Yards.withBareWheel();
                stock(x, NONE);
                // What is not there yet needs 150 each; what is there leaves just that, or one less.
                x.put(0, 8 + there, x.piece(3, 0, 0, 178 + over));
                for (int i = 9; i < 8 + there; i++) {
                    x.put(0, i, i);
                }
                c.agreed(x, "28: " + there + " are there, over " + over, x.plan(0), over > 0 ? NONE : 0);
            }
        }
    }

    /** Terms 4: a year in which the arcs are too long is none for a PLAN, a later one may be. */
    private static void planArcsOfALaterYear() {
        WheelYard x = Yards.withBareWheel();
        x.dampRow(1, 4, 50);
        x.damp(1, 3, 20);
        x.piece(0, 0, 0, 8);
        Yards.pieces(x, 8, 1, 0, 100);
        Yards.pieces(x, 4, 3, 0, 158);
        Yards.pieces(x, 4, 2, 0, 1);
        c.agreed(x, "28: arcs of 632", x.plan(0), NONE);
        int late = x.piece(3, 1, 0, 155);
        c.agreed(x, "28: arcs of 629 in 3 years", x.plan(0), NONE);
        int later = x.piece(3, 1, 0, 154);
        c.agreed(x, "28: arcs of 625 in 3 years", x.plan(0), 3);
        int[] due = {later, late, 9, 10};
        for (int i = 0; i < 4; i++) {
            c.due("29: planned(" + (9 + i) + ")", x.planned(9 + i), due[i]);
        }
    }

    /** Terms 4: "Of NAVES, SPOKES and DOWELS those of least numbers": sizes, SLOPES and WEAR are not looked at. */
    private static void planTakesLeastNumbers() {
        WheelYard x = Yards.withBareWheel();
        x.piece(2, 0, 9, 30000);
        x.piece(1, 0, 9, 100);
        x.piece(0, 0, 9, 8);
        for (int i = 0; i < 9; i++) {
            x.piece(2, 0, 0, 30 - i);
            x.piece(1, 0, 0, 100);
            x.piece(0, 0, 0, 8);
        }
        Yards.pieces(x, 4, 3, 0, 150);
        c.agreed(x, "28: plan(0)", x.plan(0), 0);
        c.due("29: the NAVE", x.planned(0), 2);
        for (int i = 0; i < 8; i++) {
            c.due("29: SPOKE " + i, x.planned(1 + i), 1 + 3 * i);
        }
        for (int i = 0; i < 4; i++) {
            c.due("29: DOWEL " + i, x.planned(13 + i), 3 * i);
            c.due("29: FELLOE " + i, x.planned(9 + i), 30 + i);
        }
    }

    /** Terms 4: of those that are FREE, FIT, and are DRY in the PLAN's year. */
    private static void planTakesLeastNumbersOfDryOnes() {
        WheelYard x = Yards.withBareWheel();
        x.dampRow(1, 3, 50);
        x.damp(1, 2, 20);
        Yards.pieces(x, 2, 0, 1, 8);
        Yards.pieces(x, 2, 1, 1, 100);
        Yards.pieces(x, 2, 2, 1, 1);
        Yards.pieces(x, 1, 3, 1, 100);
        stock(x, NONE);
        c.agreed(x, "28: this YEAR", x.plan(0), 0);
        for (int place = 0; place < Yards.RIM; place++) {
            c.due("29: planned(" + place + ")", x.planned(place), 7 + place);
        }
        x.dampRow(0, 60, 21);
        x.damp(0, 2, 20);
        c.agreed(x, "28: in 2 years", x.plan(0), 2);
        int[] due = {0, 2, 3, 8, 9, 10, 11, 12, 13, 6, 16, 17, 18, 4, 5, 20, 21};
        for (int place = 0; place < Yards.RIM; place++) {
            c.due("29: planned(" + place + ")", x.planned(place), due[place]);
        }
    }

    /** Terms 4: "for FELLOES the ones of least arcs, of like ones those of least numbers .. the least first". */
    private static void planTakesLeastArcs() {
        WheelYard x = Yards.withBareWheel();
        x.piece(0, 0, 0, 8);
        Yards.pieces(x, 8, 1, 0, 100);
        Yards.pieces(x, 4, 2, 0, 1);
        int[] arcs = {157, 156, 157, 30000, 1, 156, 157, 156};
        for (int arc : arcs) {
            x.piece(3, 0, 0, arc);
        }
        c.agreed(x, "28: plan(0)", x.plan(0), 0);
        int[] due = {17, 14, 18, 20};
        for (int i = 0; i < 4; i++) {
            c.due("29: planned(" + (9 + i) + ")", x.planned(9 + i), due[i]);
        }
        x.put(0, 11, 17);
        x.put(0, 10, 18);
        c.agreed(x, "28: two are there", x.plan(0), 0);
        c.due("29: planned(9)", x.planned(9), 14);
        c.due("29: planned(10)", x.planned(10), NONE);
        c.due("29: planned(11)", x.planned(11), NONE);
        c.due("29: planned(12)", x.planned(12), 20);
    }

    /** Terms 4: "They go to the places in order", those that have one being left out. */
    private static void planGoesToThePlacesInOrder() {
        for (int place = 0; place < Yards.RIM; place++) {
            WheelYard x = withAllPieces();
            int sort = x.about(place, 0);
            int first = x.piece(sort, 0, 0, x.about(place, 4));
            x.put(0, place, first);
            c.agreed(x, "28: place " + place + " has one", x.plan(0), 0);
            int start = place == 0 ? 0 : place <= 8 ? 1 : place <= 12 ? 9 : 13;
            int end = place == 0 ? 1 : place <= 8 ? 9 : place <= 12 ? 13 : 17;
            for (int other = start; other < end; other++) {
                int due = other == place ? NONE : other < place ? other : other - 1;
                c.due("29: planned(" + other + ")", x.planned(other), due);
            }
        }
    }

    /** Terms 4: "each of the places 0 to n + 2 m": for the rim nothing is planned. */
    private static void planLeavesTheRim() {
        WheelYard x = withAllPieces();
        x.piece(4, 0, 0, 610);
        Yards.pieces(x, 4, 5, 0, 1);
        c.agreed(x, "28: plan(0)", x.plan(0), 0);
        for (int place = 17; place <= 40; place++) {
            c.due("29: planned(" + place + ")", x.planned(place), NONE);
        }
        c.agreed(x, "30: fill(0)", x.fill(0), 17);
        c.agreed(x, "14: the rim is bare", x.told(0, 6), 0);
    }

    private static void planChangesNothing() {
        WheelYard x = withAllPieces();
        x.plan(0);
        c.due("28: all are FREE", x.count(2), 17);
        c.due("28: the YEAR", x.count(0), 0);
        c.agreed(x, "28: nothing is there", x.told(0, 5), 0);
        c.agreed(x, "28: the same once more", x.plan(0), 0);
    }

    /** As many PIECES as there may be. */
    private static void planOfAllTwoHundred() {
        WheelYard x = Yards.withBare(16, 100);
        Yards.pieces(x, 1, 0, 0, 16);
        Yards.pieces(x, 16, 1, 0, 100);
        Yards.pieces(x, 8, 2, 0, 1);
        for (int i = 0; i < 175; i++) {
            x.piece(3, 0, 0, 240 - i);
        }
        c.due("11: count(1)", x.count(1), 200);
        c.agreed(x, "28: the last FELLOES are least", x.plan(0), 0);
        for (int i = 0; i < 8; i++) {
            c.due("29: planned(" + (17 + i) + ")", x.planned(17 + i), 199 - i);
        }
        c.agreed(x, "30: fill(0)", x.fill(0), 33);
        c.agreed(x, "18: space(0)", x.space(0), 628 - 8 * 66 - 28);
    }

    /** 29: "NONE: .. no such place". */
    private static void plannedWhichPlace() {
        for (int n : SPOKES) {
            WheelYard x = Yards.withBare(n, 100);
            x.piece(0, 0, 0, n);
            Yards.pieces(x, n, 1, 0, 100);
            Yards.pieces(x, n / 2, 3, 0, 70);
            Yards.pieces(x, n / 2, 2, 0, 1);
            x.plan(0);
            for (int place = 0; place <= 2 * n; place++) {
                c.due("29: planned(" + place + ") of " + n, x.planned(place), place);
            }
            for (int place : Checks.outside(0, 2 * n)) {
                c.due("29: planned(" + place + ") of " + n, x.planned(place), NONE);
            }
            for (int place = 2 * n + 1; place <= 42; place++) {
                c.due("29: planned(" + place + ") of " + n, x.planned(place), NONE);
            }
        }
    }

    /** 29: "the latest PLAN .. for a place of its WHEEL": nothing is left of one for a greater WHEEL. */
    private static void plannedIsOfTheLatestWheel() {
        WheelYard x = Yards.withBare(16, 100);
        x.wheel(8, 100, 1, 1);
        x.piece(0, 0, 0, 16);
        x.piece(0, 0, 0, 8);
        Yards.pieces(x, 16, 1, 0, 100);
        Yards.pieces(x, 8, 3, 0, 70);
        Yards.pieces(x, 8, 2, 0, 1);
        c.agreed(x, "28: plan(0)", x.plan(0), 0);
        c.due("29: planned(0)", x.planned(0), 0);
        c.due("29: planned(32)", x.planned(32), 33);
        c.agreed(x, "28: plan(1)", x.plan(1), 0);
        c.due("29: planned(0)", x.planned(0), 1);
        c.due("29: planned(16)", x.planned(16), 29);
        for (int place = 17; place <= 40; place++) {
            c.due("29: planned(" + place + ") of the smaller WHEEL", x.planned(place), NONE);
        }
    }

    /** 29: "the latest PLAN that told a year": one that told none, or a refusal, leaves it. */
    private static void plannedStaysWithoutAPlan() {
        WheelYard x = withAllPieces();
        x.wheel(10, 100, 10, 101);
        x.plan(0);
        c.agreed(x, "28: none for WHEEL 1", x.plan(1), NONE);
        c.due("29: planned(16)", x.planned(16), 16);
        c.refused(x, "28: no WHEEL 2", x.plan(2), 1);
        c.due("29: planned(16)", x.planned(16), 16);
        c.refused(x, "30: none for WHEEL 1", x.fill(1), 9);
        c.due("29: planned(16)", x.planned(16), 16);
        c.refused(x, "30: no WHEEL 2", x.fill(2), 1);
        c.due("29: planned(16)", x.planned(16), 16);
        x.dampRow(0, NONE, 0);
        c.agreed(x, "28: none for WHEEL 0 now", x.plan(0), NONE);
        c.due("29: planned(0)", x.planned(0), 0);
    }

    /** 29: what comes to its place, goes, or is no more is still what the PLAN has. */
    private static void plannedStaysWithOtherCalls() {
        WheelYard x = Yards.withBareWheel();
        x.keep();
        stock(x, NONE);
        x.plan(0);
        x.put(0, 0, 0);
        x.put(0, 3, 8);
        x.years(100);
        c.due("29: planned(0), that place having one now", x.planned(0), 0);
        c.due("29: planned(3), another one being there", x.planned(3), 3);
        x.undo();
        c.due("29: planned(16), which is no more", x.planned(16), 16);
        x.keep();
        c.due("29: planned(16) after keep()", x.planned(16), 16);
    }

    /** 30: 1. */
    private static void fillWhichWheel() {
        WheelYard x = withAllPieces();
        for (int w : Checks.outside(0, 0)) {
            c.refused(x, "30: fill(" + w + ")", x.fill(w), 1);
        }
        c.due("30: nothing came", x.count(2), 17);
        c.due("29: planned(0)", x.planned(0), NONE);
        WheelYard bare = new WheelYard();
        c.refused(bare, "30: no WHEELS at all", bare.fill(0), 1);
    }

    /** 30: "9 (there is no PLAN ..)". */
    private static void fillWithoutAPlan() {
        WheelYard x = Yards.withBareWheel();
        stock(x, 16);
        c.refused(x, "30: a DOWEL too few", x.fill(0), 9);
        c.due("30: nothing came", x.count(2), 16);
        c.agreed(x, "30: nothing is there", x.told(0, 5), 0);
        c.due("29: planned(0)", x.planned(0), NONE);
        x.piece(2, 0, 0, 1);
        x.dampRow(0, 60, 21);
        c.refused(x, "30: never DRY", x.fill(0), 9);
        c.due("30: nothing came", x.count(2), 17);
    }

    /** 30: "9 (.. or for a later year). (planned() is as by plan().)". */
    private static void fillForALaterYear() {
        int[] ahead = {1, 2, 59};
        for (int years : ahead) {
            WheelYard x = Yards.withBareWheel();
            x.dampRow(0, 60, 21);
            x.damp(0, years, 20);
            stock(x, NONE);
            c.refused(x, "30: DRY in " + years, x.fill(0), 9);
            c.due("30: nothing came", x.count(2), 17);
            c.agreed(x, "30: nothing is there", x.told(0, 5), 0);
            for (int place = 0; place < Yards.RIM; place++) {
                c.due("30: planned(" + place + ") as by plan()", x.planned(place), place);
            }
            x.years(years - 1);
            c.refused(x, "30: DRY in a year", x.fill(0), 9);
            x.years(1);
            c.agreed(x, "30: DRY now", x.fill(0), 17);
        }
    }

    /** 30: "how many": 0 is no refusal. */
    private static void fillOfNothingMissing() {
        WheelYard x = Yards.withFramedWheel();
        c.agreed(x, "30: all is there", x.fill(0), 0);
        WheelYard y = Yards.withTyre();
        y.dampRow(0, NONE, 0);
        y.years(100);
        c.agreed(y, "30: a WHEEL that is TRUE", y.fill(0), 0);
        c.agreed(y, "14: the TYRE stays", y.told(0, 6), 1);
    }

    /** 30: "how many", from 1 to all. */
    private static void fillOfEachCount() {
        for (int n : SPOKES) {
            WheelYard x = Yards.withBare(n, 100);
            Yards.frame(x, 0, 28);
            for (int many = 1; many <= 2 * n + 1; many += n / 2) {
                for (int place = 0; place < many; place++) {
                    x.out(0, place);
                }
                c.agreed(x, "30: " + many + " are missing", x.fill(0), many);
                c.agreed(x, "14: all are there", x.told(0, 5), 2 * n + 1);
            }
        }
    }

    /** 30: "All PIECES of a PLAN .. come to their places". */
    private static void fillTakesWhatThePlanTells() {
        WheelYard x = Yards.withBareWheel();
        int[] arcs = {160, 120, 170, 150, 130};
        for (int arc : arcs) {
            x.piece(3, 0, 0, arc);
        }
        Yards.pieces(x, 9, 1, 0, 100);
        Yards.pieces(x, 5, 2, 0, 1);
        Yards.pieces(x, 2, 0, 0, 8);
        x.put(0, 2, 13);
        c.agreed(x, "30: fill(0)", x.fill(0), 16);
        int[] due = {19, 5, 13, 6, 7, 8, 9, 10, 11, 1, 4, 3, 0, 14, 15, 16, 17};
        for (int place = 0; place < due.length; place++) {
            c.agreed(x, "30: at(0, " + place + ")", x.at(0, place), due[place]);
            c.agreed(x, "30: place of " + due[place], x.about(due[place], 7), place);
            c.agreed(x, "30: WHEEL of " + due[place], x.about(due[place], 6), 0);
            c.due("30: planned(" + place + ")", x.planned(place), place == 2 ? NONE : due[place]);
        }
        c.due("30: what is FREE still", x.count(2), 4);
    }

    private static void fillMakesStrakedWheelsTrue() {
        WheelYard x = Yards.withStrakes();
        for (int place = 0; place <= 16; place++) {
            x.out(0, place);
        }
        c.due("33: none is TRUE", x.count(4), 0);
        c.agreed(x, "30: fill(0) under STRAKES", x.fill(0), 17);
        c.due("33: one is TRUE", x.count(4), 1);
    }

    /** What the first has taken is not FREE for the second. */
    private static void fillTwoWheels() {
        WheelYard x = withAllPieces();
        x.wheel(8, 100, 10, 101);
        c.agreed(x, "28: plan(1)", x.plan(1), 0);
        c.agreed(x, "30: fill(0)", x.fill(0), 17);
        c.agreed(x, "28: none for WHEEL 1 now", x.plan(1), NONE);
        c.refused(x, "30: none for WHEEL 1 now", x.fill(1), 9);
        stock(x, NONE);
        c.agreed(x, "30: fill(1)", x.fill(1), 17);
        c.agreed(x, "30: at(1, 0)", x.at(1, 0), 17);
    }
}
