/** Each sentence of promises 16 to 19, and of what Terms 2 says of what FITS, of SPACE and GAPS, that names a bound. */
public final class BoundsOfPlacesTest {
    private static final int NONE = WheelYard.NONE;
    private static final int[] SPOKES = {8, 10, 12, 14, 16};
    private static final Checks c = new Checks();

    public static void main(String[] args) {
        putWhichWheel();
        putWhichPlace();
        putWhichPiece();
        putWhereSomethingIs();
        putUnderTyre();
        putOfTyre();
        putWhatIsNotFree();
        putSortsAtPlaces();
        putNaves();
        putSpokes();
        putOneFelloe();
        putFelloesUpToRound();
        putDowelsAndStrakesOfAnySize();
        putDampOfTwenty();
        putAges();
        putStrakesAreNotOfWood();
        putTellsTheFirstReason();
        putTellsTheFirstReasonOfPieces();
        outWhich();
        outOfNothing();
        outTakesTheTyre();
        outOfTheTyre();
        outLeavesStrakes();
        spaceWhichWheel();
        spaceNeedsFelloesAlone();
        spaceFromNoughtToMost();
        spaceWhateverTheRim();
        gapWhich();
        gapTellsTheFirstReason();
        gapsOfEachSpace();
        gapsOfEachDraw();
        gapsWithStrakes();
        c.end();
    }

    /** 16: 1. */
    private static void putWhichWheel() {
        WheelYard x = Yards.withBareWheel();
        int nave = x.piece(0, 0, 0, 8);
        for (int w : Checks.outside(0, 0)) {
            c.refused(x, "16: put(" + w + ", 0, 0)", x.put(w, 0, nave), 1);
        }
        c.agreed(x, "16: put(0, 0, 0)", x.put(0, 0, nave));
        WheelYard bare = new WheelYard();
        c.refused(bare, "16: no WHEELS at all", bare.put(0, 0, 0), 1);
    }

    /** 16: 2. */
    private static void putWhichPlace() {
        for (int n : SPOKES) {
            WheelYard x = Yards.withBare(n, 100);
            int nave = x.piece(0, 0, 0, n);
            int strake = x.piece(5, 0, 0, 1);
            for (int place : Checks.outside(0, 2 * n + n / 2)) {
                c.refused(x, "16: a NAVE at " + place + " of " + n, x.put(0, place, nave), 2);
                c.refused(x, "16: a STRAKE at " + place + " of " + n, x.put(0, place, strake), 2);
            }
            c.agreed(x, "16: the first place", x.put(0, 0, nave));
            c.agreed(x, "16: the last place", x.put(0, 2 * n + n / 2, strake));
        }
    }

    /** 16: 3. */
    private static void putWhichPiece() {
        int[] counts = {0, 1, 200};
        for (int count : counts) {
            WheelYard x = Yards.withBareWheel();
            Yards.pieces(x, count, 0, 0, 8);
            for (int p : Checks.outside(0, count - 1)) {
                c.refused(x, "16: put(0, 0, " + p + ") of " + count, x.put(0, 0, p), 3);
            }
            if (count > 0) {
                c.agreed(x, "16: the last PIECE of " + count, x.put(0, 0, count - 1));
            }
        }
    }

    /** 16: 4, "something is at the place", at each place. */
    private static void putWhereSomethingIs() {
        for (int n : SPOKES) {
            WheelYard x = Yards.withBare(n, 100);
            Yards.frame(x, 0, 28);
            Yards.strakes(x, 0);
            int strake = x.piece(5, 0, 0, 1);
            for (int place = 0; place <= 2 * n + n / 2; place++) {
                c.refused(x, "16: put(0, " + place + ", ..) of " + n, x.put(0, place, strake), 4);
                c.due("16: it stays", x.at(0, place), place);
            }
        }
    }

    /** 16: 4, "(STRAKES, TYRE) the other sort is there": under a TYRE no place takes a STRAKE. */
    private static void putUnderTyre() {
        for (int n : SPOKES) {
            WheelYard x = Yards.withBare(n, 100);
            Yards.frame(x, 0, 28);
            int tyre = x.piece(4, 0, 0, 610);
            int strake = x.piece(5, 0, 0, 1);
            x.tyre(0, tyre, 50);
            for (int place = 0; place <= 2 * n + n / 2; place++) {
                c.refused(x, "16: a STRAKE at " + place + " of " + n, x.put(0, place, strake), 4);
            }
            c.agreed(x, "14: the TYRE stays", x.told(0, 6), 1);
            x.out(0, 2 * n + 1);
            c.agreed(x, "16: a STRAKE, the TYRE being gone", x.put(0, 2 * n + n / 2, strake));
            c.refused(x, "20: a TYRE, the STRAKE being there", x.tyre(0, tyre, 50), 4);
        }
    }

    /** 16: "A PIECE (no TYRE)": of another SORT at each place that is free. */
    private static void putOfTyre() {
        WheelYard x = Yards.withBareWheel();
        int tyre = x.piece(4, 0, 0, 610);
        for (int place = 0; place <= 20; place++) {
            c.refused(x, "16: a TYRE at " + place, x.put(0, place, tyre), 7);
        }
        x.put(0, 18, x.piece(5, 0, 0, 1));
        c.refused(x, "16: a TYRE where a STRAKE is", x.put(0, 18, tyre), 4);
        c.due("16: it is FREE", x.about(tyre, 6), NONE);
        WheelYard framed = Yards.withFramedWheel();
        c.refused(framed, "16: a TYRE, all else being there", framed.put(0, 17, framed.piece(4, 0, 0, 610)), 7);
    }

    /** 16: 6, be it in this WHEEL or in another one. */
    private static void putWhatIsNotFree() {
        WheelYard x = Yards.withBareWheel();
        x.wheel(8, 100, 10, 101);
        int spoke = x.piece(1, 0, 0, 100);
        x.put(0, 1, spoke);
        c.refused(x, "16: in this WHEEL", x.put(0, 2, spoke), 6);
        c.refused(x, "16: in another WHEEL", x.put(1, 1, spoke), 6);
        c.due("16: it stays", x.about(spoke, 7), 1);
        c.refused(x, "16: the other place is empty", x.at(0, 2), 5);
        x.out(0, 1);
        c.agreed(x, "16: FREE again", x.put(1, 8, spoke));
        c.refused(x, "16: not FREE again", x.put(0, 1, spoke), 6);
        x.put(0, 20, x.piece(5, 0, 0, 1));
        c.refused(x, "16: a STRAKE that is not FREE", x.put(1, 20, 1), 6);
        WheelYard tyred = Yards.withTyre();
        tyred.wheel(8, 100, 10, 101);
        c.refused(tyred, "16: a TYRE that is not FREE", tyred.put(1, 17, 17), 6);
    }

    /** Terms 2: "PLACES: 0 .. , 1 to n .., n + 1 to n + m .., n + m + 1 to n + 2 m .., n + 2 m + 1 .. m places". */
    private static void putSortsAtPlaces() {
        for (int n : SPOKES) {
            int m = n / 2;
            int[] sizes = {n, 100, 1, 1, 610, 1};
            for (int half = 0; half < 2; half++) {
                WheelYard x = Yards.withBare(n, 100);
                for (int sort = 0; sort <= 5; sort++) {
                    x.piece(sort, 0, 0, sizes[sort]);
                }
                for (int place = half * n; place <= (half == 0 ? n - 1 : n + 3 * m); place++) {
                    int due = place == 0 ? 0 : place <= n ? 1 : place <= n + m ? 3 : place <= n + 2 * m ? 2 : 5;
                    for (int sort = 0; sort <= 5; sort++) {
                        if (sort == due) {
                            c.yes("16: SORT " + sort + " at " + place + " of " + n, x.put(0, place, sort));
                            x.out(0, place);
                        } else {
                            c.refused(x, "16: SORT " + sort + " at " + place + " of " + n, x.put(0, place, sort), 7);
                        }
                    }
                }
            }
        }
    }

    /** Terms 2: "a NAVE with n holes". */
    private static void putNaves() {
        for (int n : SPOKES) {
            WheelYard x = Yards.withBare(n, 100);
            int[] others = {1, n - 2, n - 1, n + 1, n + 2, 2 * n, 30000};
            for (int holes : others) {
                c.refused(x, "16: " + holes + " holes for " + n, x.put(0, 0, x.piece(0, 0, 0, holes)), 8);
            }
            c.agreed(x, "16: " + n + " holes", x.put(0, 0, x.piece(0, 0, 0, n)));
        }
    }

    /** Terms 2: "a SPOKE as long as LONG", which is not r where there is a STAND. */
    private static void putSpokes() {
        WheelYard x = Yards.withBareWheel();
        int[][] wheels = {{30, 40, 50}, {300, 399, 499}, {4000, 2000, 4472}, {30, 1, 30}};
        for (int i = 0; i < wheels.length; i++) {
            int w = x.wheel(8, wheels[i][0], wheels[i][1], 101);
            int tall = wheels[i][2];
            c.refused(x, "16: a SPOKE one too short", x.put(w, 8, x.piece(1, 0, 0, tall - 1)), 8);
            c.refused(x, "16: a SPOKE one too long", x.put(w, 8, x.piece(1, 0, 0, tall + 1)), 8);
            if (tall != wheels[i][0]) {
                c.refused(x, "16: a SPOKE of r", x.put(w, 8, x.piece(1, 0, 0, wheels[i][0])), 8);
            }
            c.refused(x, "16: a SPOKE of 1", x.put(w, 8, x.piece(1, 0, 0, 1)), 8);
            c.refused(x, "16: a SPOKE of 30000", x.put(w, 8, x.piece(1, 0, 0, 30000)), 8);
            c.agreed(x, "16: a SPOKE of LONG", x.put(w, 8, x.piece(1, 0, 0, tall)));
        }
    }

    /** Terms 2: "a FELLOE whose arc .. ROUND at most", none being there. */
    private static void putOneFelloe() {
        int[] radii = {30, 113, 4000};
        int[] rounds = {188, 710, 25132};
        for (int i = 0; i < radii.length; i++) {
            WheelYard x = Yards.withBare(8, radii[i]);
            for (int place = 9; place <= 12; place++) {
                c.refused(x, "16: an arc of ROUND and 1", x.put(0, place, x.piece(3, 0, 0, rounds[i] + 1)), 8);
                c.refused(x, "16: an arc of 30000", x.put(0, place, x.piece(3, 0, 0, 30000)), 8);
                c.agreed(x, "16: an arc of ROUND", x.put(0, place, x.piece(3, 0, 0, rounds[i])));
                x.out(0, place);
                c.agreed(x, "16: an arc of 1", x.put(0, place, x.piece(3, 0, 0, 1)));
                x.out(0, place);
            }
        }
    }

    /** Terms 2: "whose arc and those of the FELLOES that are there are ROUND at most". */
    private static void putFelloesUpToRound() {
        for (int n : SPOKES) {
            int m = n / 2;
            WheelYard x = Yards.withBare(n, 100);
            for (int i = 1; i < m; i++) {
                x.put(0, n + i, x.piece(3, 0, 0, 70));
            }
            int rest = 628 - 70 * (m - 1);
            c.refused(x, "16: one too much", x.put(0, n + m, x.piece(3, 0, 0, rest + 1)), 8);
            int just = x.piece(3, 0, 0, rest);
            c.agreed(x, "16: just ROUND", x.put(0, n + m, just));
            c.agreed(x, "18: no SPACE", x.space(0), 0);
            x.out(0, n + 1);
            c.refused(x, "16: one too much at the first place", x.put(0, n + 1, x.piece(3, 0, 0, 71)), 8);
            c.agreed(x, "16: just ROUND at the first place", x.put(0, n + 1, x.piece(3, 0, 0, 70)));
            x.out(0, n + m);
            x.out(0, n + 1);
            c.agreed(x, "16: what is gone counts no more", x.put(0, n + 1, just));
            c.refused(x, "16: what is there does", x.put(0, n + m, x.piece(3, 0, 0, 71)), 8);
            x.wheel(n, 100, 1, 1);
            c.agreed(x, "16: those of another WHEEL do not", x.put(1, n + 1, x.piece(3, 0, 0, 628)));
        }
    }

    /** Terms 2: "DOWELS, STRAKES always". */
    private static void putDowelsAndStrakesOfAnySize() {
        int[] sizes = {1, 2, 629, 30000};
        WheelYard x = Yards.withBare(8, 30);
        for (int i = 0; i < sizes.length; i++) {
            c.agreed(x, "16: a DOWEL of " + sizes[i], x.put(0, 13 + i, x.piece(2, 0, 0, sizes[i])));
            c.agreed(x, "16: a STRAKE of " + sizes[i], x.put(0, 17 + i, x.piece(5, 0, 0, sizes[i])));
        }
    }

    /** 16: 9; Terms 1: "20 at most". */
    private static void putDampOfTwenty() {
        int[] places = {0, 1, 9, 13};
        for (int place : places) {
            WheelYard x = Yards.withBareWheel();
            int p = Yards.pieceFor(x, place);
            int[] wet = {100, 22, 21};
            for (int v : wet) {
                x.damp(0, 0, v);
                c.refused(x, "16: DAMP " + v + " at " + place, x.put(0, place, p), 9);
            }
            x.dampRow(0, 0, 0);
            c.refused(x, "16: no number at " + place, x.put(0, place, p), 9);
            x.dampRow(0, NONE, 0);
            c.refused(x, "16: MISSING at " + place, x.put(0, place, p), 9);
            x.dampRow(0, 1, 20);
            c.agreed(x, "16: DAMP 20 at " + place, x.put(0, place, p));
            x.out(0, place);
            x.damp(0, 0, 0);
            c.agreed(x, "16: DAMP 0 at " + place, x.put(0, place, p));
        }
    }

    /** 16: 9, of the years since it was cut. */
    private static void putAges() {
        WheelYard x = Yards.withBareWheel();
        x.dampRow(1, 3, 50);
        x.damp(1, 1, 20);
        x.years(10);
        int p = x.piece(2, 1, 0, 1);
        int[] due = {9, 0, 9, 9, 9};
        for (int age = 0; age < due.length; age++) {
            boolean came = x.put(0, 13, p);
            c.due("16: why(), " + age + " years old", x.why(), due[age]);
            if (came) {
                x.out(0, 13);
            }
            x.years(1);
        }
        WheelYard y = Yards.withBareWheel();
        int q = y.piece(2, 0, 0, 1);
        y.years(59);
        c.agreed(y, "16: 59 years old", y.put(0, 13, q));
        y.out(0, 13);
        y.years(1);
        c.refused(y, "16: 60 years old", y.put(0, 13, q), 9);
    }

    /** Terms 1: "All but TYRES and STRAKES are of a WOOD": 9 is not told of these. */
    private static void putStrakesAreNotOfWood() {
        WheelYard x = new WheelYard();
        x.wheel(8, 100, 10, 101);
        x.piece(5, 3, 9, 1);
        x.years(100);
        c.agreed(x, "16: a STRAKE, all ROWS MISSING", x.put(0, 17, 0));
    }

    /** Terms 3: "the first that holds, if a call tells several": 1 to 4 ahead of all later ones. */
    private static void putTellsTheFirstReason() {
        WheelYard x = Yards.withStrakes();
        int wetWide = x.piece(0, 3, 0, 10);
        int[] wheels = Checks.outside(0, 0);
        int[] places = Checks.outside(0, 20);
        int[] pieces = Checks.outside(0, wetWide);
        for (int i = 0; i < 6; i++) {
            c.refused(x, "16: 1 and 2 and 3", x.put(wheels[i], places[i], pieces[i]), 1);
            c.refused(x, "16: 1 and 3", x.put(wheels[i], 0, pieces[i]), 1);
            c.refused(x, "16: 1 and 2 and 6", x.put(wheels[i], places[i], 0), 1);
            c.refused(x, "16: 1 and 9", x.put(wheels[i], 0, wetWide), 1);
            c.refused(x, "16: 2 and 3", x.put(0, places[i], pieces[i]), 2);
            c.refused(x, "16: 2 and 6", x.put(0, places[i], 5), 2);
            c.refused(x, "16: 2 and 9", x.put(0, places[i], wetWide), 2);
            c.refused(x, "16: 3 and 4", x.put(0, 5, pieces[i]), 3);
        }
        c.refused(x, "16: 4 and 6", x.put(0, 5, 6), 4);
        c.refused(x, "16: 4 and 6, the PIECE that is there", x.put(0, 5, 5), 4);
        c.refused(x, "16: 4 and 7 and 9", x.put(0, 5, wetWide), 4);
        c.refused(x, "16: 4 and 8 and 9", x.put(0, 0, wetWide), 4);
        c.refused(x, "16: 4 and 7", x.put(0, 17, x.piece(4, 0, 0, 1)), 4);
        c.refused(x, "16: 4 and 9", x.put(0, 13, x.piece(2, 3, 0, 1)), 4);
    }

    /** Terms 3: 6 ahead of 7, 8, 9; 7 ahead of 8, 9; 8 ahead of 9. */
    private static void putTellsTheFirstReasonOfPieces() {
        WheelYard x = Yards.withBareWheel();
        x.wheel(10, 100, 10, 101);
        int nave = x.piece(0, 0, 0, 8);
        x.put(0, 0, nave);
        c.refused(x, "16: 6 and 7", x.put(1, 1, nave), 6);
        c.refused(x, "16: 6 and 8", x.put(1, 0, nave), 6);
        x.dampRow(0, NONE, 0);
        c.refused(x, "16: 6 and 8 and 9", x.put(1, 0, nave), 6);
        c.refused(x, "16: 6 and 7 and 9", x.put(1, 1, nave), 6);
        int wet = x.piece(0, 0, 0, 8);
        c.refused(x, "16: 7 and 9", x.put(1, 1, wet), 7);
        c.refused(x, "16: 8 and 9, a NAVE", x.put(1, 0, wet), 8);
        c.refused(x, "16: 8 and 9, a SPOKE", x.put(1, 1, x.piece(1, 0, 0, 99)), 8);
        c.refused(x, "16: 8 and 9, a FELLOE", x.put(1, 11, x.piece(3, 0, 0, 629)), 8);
        c.refused(x, "16: 9, a FELLOE", x.put(1, 11, x.piece(3, 0, 0, 628)), 9);
        c.refused(x, "16: 7 and 8, a long SPOKE for a FELLOE", x.put(1, 11, x.piece(1, 0, 0, 30000)), 7);
        c.refused(x, "16: 7 and 8, a long FELLOE for a SPOKE", x.put(1, 1, x.piece(3, 0, 0, 30000)), 7);
    }

    /** 17: 1, 2, and 1 ahead of 2. */
    private static void outWhich() {
        for (int n : SPOKES) {
            WheelYard x = Yards.withBare(n, 100);
            Yards.frame(x, 0, 28);
            for (int place : Checks.outside(0, 2 * n + n / 2)) {
                c.refused(x, "17: out(0, " + place + ") of " + n, x.out(0, place), 2);
                c.refused(x, "17: out(1, " + place + ") of " + n, x.out(1, place), 1);
            }
            for (int w : Checks.outside(0, 0)) {
                c.refused(x, "17: out(" + w + ", 0)", x.out(w, 0), 1);
            }
            c.due("17: nothing went", x.count(2), 0);
        }
    }

    /** 17: 5. */
    private static void outOfNothing() {
        for (int n : SPOKES) {
            WheelYard x = Yards.withBare(n, 100);
            for (int place = 0; place <= 2 * n + n / 2; place++) {
                c.refused(x, "17: out(0, " + place + ") of " + n, x.out(0, place), 5);
            }
            Yards.frame(x, 0, 28);
            x.tyre(0, x.piece(4, 0, 0, 610), 50);
            for (int place = 2 * n + 2; place <= 2 * n + n / 2; place++) {
                c.refused(x, "17: out(0, " + place + ") under a TYRE", x.out(0, place), 5);
            }
            c.agreed(x, "17: the TYRE stays", x.told(0, 6), 1);
        }
    }

    /** 17: "at one of places 0 to n + 2 m, and there is a TYRE, this goes, too", from each such place. */
    private static void outTakesTheTyre() {
        for (int n : SPOKES) {
            WheelYard x = Yards.withBare(n, 100);
            Yards.frame(x, 0, 28);
            int tyre = x.piece(4, 0, 0, 610);
            for (int place = 0; place <= 2 * n; place++) {
                x.tyre(0, tyre, 50);
                c.due("17: out(0, " + place + ") of " + n, x.out(0, place), place);
                c.due("17: why()", x.why(), 0);
                c.due("17: two are FREE", x.count(2), 2);
                c.due("17: the TYRE's WHEEL", x.about(tyre, 6), NONE);
                c.due("17: the TYRE's place", x.about(tyre, 7), NONE);
                c.due("17: all others stay", x.told(0, 5), 2 * n);
                x.put(0, place, place);
            }
            c.agreed(x, "17: the TYRE does not come back by itself", x.told(0, 6), 0);
        }
    }

    /** 17: "What is at a place goes": the TYRE alone. */
    private static void outOfTheTyre() {
        for (int n : SPOKES) {
            WheelYard x = Yards.withBare(n, 100);
            Yards.frame(x, 0, 28);
            int tyre = x.piece(4, 0, 0, 610);
            x.tyre(0, tyre, 50);
            c.agreed(x, "17: out(0, " + (2 * n + 1) + ")", x.out(0, 2 * n + 1), tyre);
            c.agreed(x, "17: all others stay", x.told(0, 5), 2 * n + 1);
            c.due("17: it alone is FREE", x.count(2), 1);
            c.refused(x, "17: it is gone", x.out(0, 2 * n + 1), 5);
        }
    }

    /** 17 tells of a TYRE alone that it goes, too: STRAKES stay. */
    private static void outLeavesStrakes() {
        WheelYard x = Yards.withStrakes();
        for (int place = 0; place <= 16; place++) {
            c.agreed(x, "17: out(0, " + place + ")", x.out(0, place), place);
            c.due("17: what is FREE", x.count(2), place + 1);
        }
        for (int place = 17; place <= 20; place++) {
            c.agreed(x, "17: the STRAKE at " + place, x.at(0, place), place);
            c.agreed(x, "17: out(0, " + place + ")", x.out(0, place), place);
        }
        c.due("17: all are FREE", x.count(2), 21);
    }

    /** 18: 1. */
    private static void spaceWhichWheel() {
        WheelYard x = Yards.withFramedWheel();
        for (int w : Checks.outside(0, 0)) {
            c.refused(x, "18: space(" + w + ")", x.space(w), 1);
        }
        WheelYard bare = new WheelYard();
        c.refused(bare, "18: no WHEELS at all", bare.space(0), 1);
    }

    /** 18: "10 (here: a FELLOE is missing)": any of them, and nothing but them. */
    private static void spaceNeedsFelloesAlone() {
        for (int n : SPOKES) {
            int m = n / 2;
            WheelYard x = Yards.withBare(n, 100);
            Yards.frame(x, 0, 28);
            for (int place = 0; place <= 2 * n; place++) {
                x.out(0, place);
                if (place > n && place <= n + m) {
                    c.refused(x, "18: without the FELLOE at " + place, x.space(0), 10);
                    c.refused(x, "19: without the FELLOE at " + place, x.gap(0, 0), 10);
                } else {
                    c.agreed(x, "18: without what is at " + place, x.space(0), 28);
                    c.agreed(x, "19: without what is at " + place, x.gap(0, 0), 28 / m + (28 % m > 0 ? 1 : 0));
                }
                x.put(0, place, place);
            }
            WheelYard felloes = Yards.withBare(n, 100);
            for (int i = 1; i <= m; i++) {
                c.refused(felloes, "18: " + (i - 1) + " FELLOES", felloes.space(0), 10);
                felloes.put(0, n + i, felloes.piece(3, 0, 0, 10));
            }
            c.agreed(felloes, "18: FELLOES and nothing else", felloes.space(0), 628 - 10 * m);
        }
    }

    /** Terms 2: "ROUND less their arcs". */
    private static void spaceFromNoughtToMost() {
        int[] radii = {30, 4000};
        int[] rounds = {188, 25132};
        for (int i = 0; i < radii.length; i++) {
            int[] spaces = {0, 1, 100, rounds[i] - 4};
            for (int space : spaces) {
                WheelYard x = Yards.withBare(8, radii[i]);
                Yards.frame(x, 0, space);
                c.agreed(x, "18: space(0) of r " + radii[i], x.space(0), space);
            }
        }
    }

    /** 18 asks no TYRE's length: SPACE is the same with one, and with STRAKES. */
    private static void spaceWhateverTheRim() {
        WheelYard tyred = Yards.withTyre();
        c.agreed(tyred, "18: with a TYRE", tyred.space(0), 28);
        WheelYard straked = Yards.withStrakes();
        c.agreed(straked, "18: with STRAKES", straked.space(0), 28);
    }

    /** 19: 1, and 17 "no such one": GAPS are 0 to m - 1. */
    private static void gapWhich() {
        for (int n : SPOKES) {
            int m = n / 2;
            WheelYard x = Yards.withBare(n, 100);
            Yards.frame(x, 0, 7 * m);
            c.agreed(x, "19: the first GAP of " + n, x.gap(0, 0), 7);
            c.agreed(x, "19: the last GAP of " + n, x.gap(0, m - 1), 7);
            for (int i : Checks.outside(0, m - 1)) {
                c.refused(x, "19: gap(0, " + i + ") of " + n, x.gap(0, i), 17);
                c.refused(x, "19: gap(1, " + i + ") of " + n, x.gap(1, i), 1);
            }
            for (int w : Checks.outside(0, 0)) {
                c.refused(x, "19: gap(" + w + ", 0)", x.gap(w, 0), 1);
            }
        }
    }

    /** 19: 1 ahead of 10 and 17, 10 ahead of 17. */
    private static void gapTellsTheFirstReason() {
        WheelYard x = Yards.withBareWheel();
        for (int i : Checks.outside(0, 3)) {
            c.refused(x, "19: 1 and 17", x.gap(1, i), 1);
            c.refused(x, "19: 10 and 17", x.gap(0, i), 10);
        }
        c.refused(x, "19: 10 alone", x.gap(0, 0), 10);
    }

    /** Terms 2: "SPACE / m (whole part), and 1 more if i is below SPACE % m". */
    private static void gapsOfEachSpace() {
        for (int n : SPOKES) {
            int m = n / 2;
            for (int space = 0; space <= 2 * m; space++) {
                WheelYard x = Yards.withBare(n, 100);
                Yards.frame(x, 0, space);
                int sum = 0;
                for (int i = 0; i < m; i++) {
                    int due = space == 2 * m ? 2 : space < m ? (i < space ? 1 : 0) : (i < space - m ? 2 : 1);
                    c.agreed(x, "19: gap(0, " + i + ") of SPACE " + space, x.gap(0, i), due);
                    sum += x.gap(0, i);
                }
                c.due("19: all GAPS", sum, space);
            }
        }
    }

    /** Terms 2: "less by DRAW / m, and by 1 more if i is below DRAW % m", from a DRAW of 0 to one of SPACE. */
    private static void gapsOfEachDraw() {
        for (int n : SPOKES) {
            int m = n / 2;
            int space = m + 2;
            for (int draw = 0; draw <= space; draw++) {
                WheelYard x = Yards.withBare(n, 100);
                Yards.frame(x, 0, space);
                c.agreed(x, "20: a DRAW of " + draw, x.tyre(0, x.piece(4, 0, 0, 628 - draw), 199));
                int sum = 0;
                for (int i = 0; i < m; i++) {
                    int wide = i < 2 ? 2 : 1;
                    int less = draw >= m ? (i < draw - m ? 2 : 1) : (i < draw ? 1 : 0);
                    c.agreed(x, "19: gap(0, " + i + ") of DRAW " + draw, x.gap(0, i), wide - less);
                    sum += x.gap(0, i);
                }
                c.due("19: all GAPS", sum, space - draw);
                x.out(0, 2 * n + 1);
                c.agreed(x, "19: the TYRE being gone", x.gap(0, 0), 2);
            }
        }
    }

    /** Terms 2: "GAP i .., without a TYRE": STRAKES draw nothing, however short. */
    private static void gapsWithStrakes() {
        WheelYard x = Yards.withStrakes();
        for (int i = 0; i < 4; i++) {
            c.agreed(x, "19: gap(0, " + i + ") with STRAKES", x.gap(0, i), 7);
        }
    }
}
