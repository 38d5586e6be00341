/** Each sentence of promises 20 and 21 that names a bound. ROUND is 628, and SPACE 28 if nothing else is told. */
public final class BoundsOfTyresTest {
    private static final int NONE = WheelYard.NONE;
    private static final int[] SPOKES = {8, 10, 12, 14, 16};
    private static final Checks c = new Checks();

    public static void main(String[] args) {
        whichWheel();
        whichPiece();
        aTyreIsThere();
        aStrakeIsThere();
        notFree();
        otherSorts();
        eachPlaceMustHaveAPiece();
        noHeatRow();
        noDegree();
        heatedBelowRoundAndNine();
        longerThanRound();
        drawAboveSpace();
        drawOfNoSpace();
        greatestWheel();
        goesOn();
        wearAndYearsAreNotLookedAt();
        eitherOfTwoTyres();
        oneAheadOfAll();
        threeAheadOfLater();
        fourAheadOfLater();
        sixAndSevenAheadOfLater();
        tenAheadOfLater();
        heatAheadOfLengths();
        thirteenAheadOfLater();
        offAfterEachReason();
        offIsOfTheLatestTyre();
        offStaysWithOtherCalls();
        c.end();
    }

    private static int tyreOf(WheelYard x, int length) {
        return x.piece(4, 0, 0, length);
    }

    /** 20: 1. */
    private static void whichWheel() {
        WheelYard x = Yards.withFramedWheel();
        int tyre = tyreOf(x, 610);
        for (int w : Checks.outside(0, 0)) {
            c.refused(x, "20: tyre(" + w + ", ..)", x.tyre(w, tyre, 50), 1);
        }
        WheelYard bare = new WheelYard();
        c.refused(bare, "20: no WHEELS at all", bare.tyre(0, 0, 0), 1);
    }

    /** 20: 3. */
    private static void whichPiece() {
        WheelYard x = Yards.withFramedWheel();
        int tyre = tyreOf(x, 610);
        for (int p : Checks.outside(0, tyre)) {
            c.refused(x, "20: tyre(0, " + p + ", 50)", x.tyre(0, p, 50), 3);
        }
        c.agreed(x, "20: the last PIECE", x.tyre(0, tyre, 50));
        WheelYard bare = new WheelYard();
        bare.wheel(8, 100, 1, 1);
        c.refused(bare, "20: no PIECES at all", bare.tyre(0, 0, 0), 3);
    }

    /** 20: 4, "something is at the place". */
    private static void aTyreIsThere() {
        WheelYard x = Yards.withTyre();
        c.refused(x, "20: another TYRE", x.tyre(0, tyreOf(x, 610), 50), 4);
        c.refused(x, "20: the very one", x.tyre(0, 17, 50), 4);
        c.agreed(x, "20: it stays", x.at(0, 17), 17);
        x.out(0, 17);
        c.agreed(x, "20: another, that one being gone", x.tyre(0, 18, 50));
    }

    /** 20: 4, "(STRAKES, TYRE) the other sort is there": one STRAKE at any of its places is enough. */
    private static void aStrakeIsThere() {
        for (int n : SPOKES) {
            WheelYard x = Yards.withBare(n, 100);
            Yards.frame(x, 0, 28);
            int strake = x.piece(5, 0, 0, 1);
            int tyre = tyreOf(x, 610);
            for (int place = 2 * n + 1; place <= 2 * n + n / 2; place++) {
                x.put(0, place, strake);
                c.refused(x, "20: a STRAKE at " + place + " of " + n, x.tyre(0, tyre, 50), 4);
                x.out(0, place);
            }
            c.agreed(x, "20: no STRAKE", x.tyre(0, tyre, 50));
        }
        WheelYard straked = Yards.withStrakes();
        c.refused(straked, "20: all STRAKES", straked.tyre(0, tyreOf(straked, 610), 50), 4);
    }

    /** 20: 6. */
    private static void notFree() {
        WheelYard x = Yards.withTyre();
        x.wheel(8, 100, 10, 101);
        Yards.frame(x, 1, 28);
        c.refused(x, "20: a TYRE of another WHEEL", x.tyre(1, 17, 50), 6);
        c.refused(x, "20: a SPOKE of this WHEEL", x.tyre(1, 20, 50), 6);
        c.refused(x, "20: a SPOKE of another WHEEL", x.tyre(1, 3, 50), 6);
        x.out(0, 17);
        c.agreed(x, "20: FREE now", x.tyre(1, 17, 50));
    }

    /** 20: 7. */
    private static void otherSorts() {
        WheelYard x = Yards.withFramedWheel();
        for (int sort = 0; sort <= 5; sort++) {
            int p = x.piece(sort, 0, 0, 610);
            if (sort != 4) {
                c.refused(x, "20: SORT " + sort, x.tyre(0, p, 50), 7);
            }
        }
        c.agreed(x, "20: a TYRE", x.tyre(0, 21, 50));
    }

    /** 20: 10, "places 0 to n + 2 m have not all a PIECE": any of them. */
    private static void eachPlaceMustHaveAPiece() {
        for (int n : SPOKES) {
            WheelYard x = Yards.withBare(n, 100);
            int tyre = tyreOf(x, 610);
            c.refused(x, "20: nothing at all", x.tyre(0, tyre, 50), 10);
            Yards.frame(x, 0, 28);
            for (int place = 0; place <= 2 * n; place++) {
                int gone = x.out(0, place);
                c.refused(x, "20: nothing at " + place + " of " + n, x.tyre(0, tyre, 50), 10);
                x.put(0, place, gone);
            }
            c.agreed(x, "20: all is there", x.tyre(0, tyre, 50));
        }
    }

    /** 20: 11. */
    private static void noHeatRow() {
        WheelYard x = Yards.withFramedWheel();
        int tyre = tyreOf(x, 610);
        x.heatRow(NONE, 0);
        int[] degrees = {0, 50, 199, 200, -1, Integer.MAX_VALUE, Integer.MIN_VALUE};
        for (int degree : degrees) {
            c.refused(x, "20: " + degree + " degrees, MISSING", x.tyre(0, tyre, degree), 11);
            c.due("21: off()", x.off(), 0);
        }
    }

    /** 20: 12, for degrees from 0 to the last number. */
    private static void noDegree() {
        int[] lengths = {0, 1, 46, 199, 200};
        for (int n : lengths) {
            WheelYard x = Yards.withFramedWheel();
            int tyre = tyreOf(x, 610);
            x.heatRow(n, 100);
            for (int degree : Checks.outside(0, n - 1)) {
                c.refused(x, "20: " + degree + " degrees of " + n, x.tyre(0, tyre, degree), 12);
                c.due("21: off()", x.off(), 0);
            }
            if (n > 0) {
                // At 45 degrees 610 becomes 637, and no less will do.
                boolean on = x.tyre(0, tyre, n - 1);
                c.due("20: the last degree of " + n, on ? 0 : x.why(), n > 45 ? 0 : 13);
            }
        }
    }

    /** 20: 13, "the TYRE, HEATED, is below ROUND and 9". */
    private static void heatedBelowRoundAndNine() {
        WheelYard x = Yards.withFramedWheel();
        int[][] due = {
            // length, degree, HEATED
            {610, 44, 636}, {628, 12, 635}, {628, 14, 636}, {620, 25, 635}, {620, 27, 636}, {600, 60, 636},
            {610, 0, 610}, {1, 99, 1}, {628, 0, 628}, {636, 0, 636},
        };
        for (int[] row : due) {
            int tyre = tyreOf(x, row[0]);
            c.due("8: HEATED", x.heated(row[0], row[1]), row[2]);
            c.refused(x, "20: " + row[0] + " at " + row[1], x.tyre(0, tyre, row[1]), 13);
            c.due("21: off()", x.off(), 637 - row[2]);
        }
        int[][] enough = {{610, 45}, {628, 15}, {620, 28}, {600, 62}};
        for (int[] row : enough) {
            int tyre = tyreOf(x, row[0]);
            c.due("8: HEATED", x.heated(row[0], row[1]), 637);
            c.agreed(x, "20: " + row[0] + " at " + row[1], x.tyre(0, tyre, row[1]));
            c.due("21: off()", x.off(), 0);
            x.out(0, 17);
        }
    }

    /** 20: 14, "it is longer than ROUND". */
    private static void longerThanRound() {
        WheelYard x = Yards.withFramedWheel();
        int[] lengths = {629, 630, 637, 700, 29999, 30000};
        for (int length : lengths) {
            c.refused(x, "20: a length of " + length, x.tyre(0, tyreOf(x, length), 99), 14);
            c.due("21: off()", x.off(), length - 628);
        }
        c.refused(x, "20: 637 and cold, long enough for 13", x.tyre(0, tyreOf(x, 637), 0), 14);
        c.due("21: off()", x.off(), 9);
        c.agreed(x, "20: a length of ROUND", x.tyre(0, tyreOf(x, 628), 99));
    }

    /** 20: 15, "its DRAW is above SPACE". */
    private static void drawAboveSpace() {
        int[] spaces = {1, 2, 28};
        for (int space : spaces) {
            WheelYard x = Yards.withBare(8, 100);
            Yards.frame(x, 0, space);
            int[] draws = {space + 1, space + 2, space + 50};
            for (int draw : draws) {
                c.refused(x, "20: a DRAW of " + draw, x.tyre(0, tyreOf(x, 628 - draw), 199), 15);
                c.due("21: off()", x.off(), draw - space);
            }
            c.agreed(x, "20: a DRAW of SPACE", x.tyre(0, tyreOf(x, 628 - space), 199));
            c.due("21: off()", x.off(), 0);
            x.out(0, 17);
            c.agreed(x, "20: a DRAW of one less", x.tyre(0, tyreOf(x, 629 - space), 199));
        }
    }

    /** 20: 14 and 15 from both sides: with no SPACE but one length goes on. */
    private static void drawOfNoSpace() {
        WheelYard x = Yards.withBare(8, 100);
        Yards.frame(x, 0, 0);
        c.refused(x, "20: a DRAW of 1", x.tyre(0, tyreOf(x, 627), 199), 15);
        c.due("21: off()", x.off(), 1);
        c.refused(x, "20: longer by 1", x.tyre(0, tyreOf(x, 629), 199), 14);
        c.due("21: off()", x.off(), 1);
        c.agreed(x, "20: a DRAW of 0", x.tyre(0, tyreOf(x, 628), 199));
    }

    /** The greatest WHEEL: what is HEATED may be above 30000, and the DRAW is great. */
    private static void greatestWheel() {
        WheelYard x = Yards.withBare(16, 4000);
        Yards.frame(x, 0, 25132 - 8);
        c.refused(x, "20: a TYRE of 1", x.tyre(0, tyreOf(x, 1), 199), 13);
        c.due("21: off()", x.off(), 25140);
        c.refused(x, "20: a TYRE of 30000", x.tyre(0, tyreOf(x, 30000), 199), 14);
        c.due("21: off()", x.off(), 4868);
        c.refused(x, "20: a TYRE of 20967, HEATED to 25139", x.tyre(0, tyreOf(x, 20967), 199), 13);
        c.due("21: off()", x.off(), 2);
        c.refused(x, "20: a TYRE of 20968, HEATED to 25140", x.tyre(0, tyreOf(x, 20968), 199), 13);
        c.due("21: off()", x.off(), 1);
        c.agreed(x, "20: a TYRE of 20969, HEATED to 25141", x.tyre(0, tyreOf(x, 20969), 199));
    }

    /** 20: "goes on": at place n + 2 m + 1, and is not FREE. */
    private static void goesOn() {
        for (int n : SPOKES) {
            WheelYard x = Yards.withBare(n, 100);
            Yards.frame(x, 0, 28);
            int tyre = tyreOf(x, 610);
            c.agreed(x, "20: tyre(0, ..) of " + n, x.tyre(0, tyre, 45));
            c.agreed(x, "20: its place", x.about(tyre, 7), 2 * n + 1);
            c.agreed(x, "20: its WHEEL", x.about(tyre, 6), 0);
            c.agreed(x, "20: at(0, ..)", x.at(0, 2 * n + 1), tyre);
            c.agreed(x, "20: it is as long as it was", x.about(tyre, 4), 610);
            c.due("20: none is FREE", x.count(2), 0);
            c.due("20: a TRUE WHEEL", x.count(4), 1);
        }
    }

    /** 20 lists no 9: that all is wet by now, and worn, is no REASON. */
    private static void wearAndYearsAreNotLookedAt() {
        WheelYard x = Yards.withTyre();
        x.turn(0, 100000);
        x.out(0, 17);
        x.years(100);
        x.dampRow(0, NONE, 0);
        c.agreed(x, "20: a worn TYRE on a wet WHEEL", x.tyre(0, 17, 50));
        c.agreed(x, "20: it stays worn", x.about(17, 5), 400000);
    }

    private static void eitherOfTwoTyres() {
        WheelYard x = Yards.withTyre();
        x.wheel(8, 100, 10, 101);
        Yards.frame(x, 1, 28);
        c.agreed(x, "20: a WHEEL each", x.tyre(1, tyreOf(x, 610), 50));
        c.due("20: both are TRUE", x.count(4), 2);
        x.out(0, 0);
        c.due("20: one is", x.count(4), 1);
        c.agreed(x, "20: the other's TYRE stays", x.told(1, 6), 1);
    }

    /** Terms 3: 1 ahead of all that could hold. */
    private static void oneAheadOfAll() {
        WheelYard x = Yards.withTyre();
        x.heatRow(NONE, 0);
        int tyre = tyreOf(x, 30000);
        for (int w : Checks.outside(0, 0)) {
            c.refused(x, "20: 1 and 3", x.tyre(w, 99, 50), 1);
            c.refused(x, "20: 1 and 6", x.tyre(w, 17, 50), 1);
            c.refused(x, "20: 1 and 7", x.tyre(w, 3, 50), 1);
            c.refused(x, "20: 1 and 11", x.tyre(w, tyre, -1), 1);
        }
    }

    /** Terms 3: 3 ahead of 4, 10, 11, 12. */
    private static void threeAheadOfLater() {
        WheelYard x = Yards.withTyre();
        x.wheel(8, 100, 10, 101);
        for (int p : Checks.outside(0, 17)) {
            c.refused(x, "20: 3 and 4", x.tyre(0, p, 50), 3);
            c.refused(x, "20: 3 and 10", x.tyre(1, p, 50), 3);
            c.refused(x, "20: 3 and 10 and 12", x.tyre(1, p, -1), 3);
        }
        x.heatRow(NONE, 0);
        c.refused(x, "20: 3 and 10 and 11", x.tyre(1, 99, 0), 3);
    }

    /** Terms 3: 4 ahead of 6, 7, 10, 11, 12, 13, 14, 15. */
    private static void fourAheadOfLater() {
        WheelYard x = Yards.withTyre();
        c.refused(x, "20: 4 and 6", x.tyre(0, 17, 50), 4);
        c.refused(x, "20: 4 and 6 and 7", x.tyre(0, 1, 50), 4);
        c.refused(x, "20: 4 and 7", x.tyre(0, x.piece(5, 0, 0, 610), 50), 4);
        c.refused(x, "20: 4 and 12", x.tyre(0, tyreOf(x, 610), 100), 4);
        c.refused(x, "20: 4 and 13", x.tyre(0, tyreOf(x, 610), 0), 4);
        c.due("21: off() after 4", x.off(), 0);
        c.refused(x, "20: 4 and 14", x.tyre(0, tyreOf(x, 30000), 0), 4);
        c.due("21: off() after 4", x.off(), 0);
        c.refused(x, "20: 4 and 15", x.tyre(0, tyreOf(x, 599), 99), 4);
        c.due("21: off() after 4", x.off(), 0);
        x.heatRow(NONE, 0);
        c.refused(x, "20: 4 and 11", x.tyre(0, tyreOf(x, 610), 50), 4);
        WheelYard straked = Yards.withStrakes();
        straked.out(0, 16);
        c.refused(straked, "20: 4 and 10", straked.tyre(0, tyreOf(straked, 610), 50), 4);
        c.refused(straked, "20: 4 and 7 and 10", straked.tyre(0, 16, 50), 4);
        c.refused(straked, "20: 4 and 6 and 10", straked.tyre(0, 17, 50), 4);
    }

    /** Terms 3: 6 ahead of 7, 10, 11, 12, 13; 7 ahead of 10, 11, 12, 13, 14. */
    private static void sixAndSevenAheadOfLater() {
        WheelYard x = Yards.withTyre();
        x.wheel(8, 100, 10, 101);
        int strake = x.piece(5, 0, 0, 610);
        int shortOne = x.piece(5, 0, 0, 1);
        int longOne = x.piece(5, 0, 0, 30000);
        c.refused(x, "20: 6 and 10", x.tyre(1, 17, 50), 6);
        c.refused(x, "20: 6 and 7 and 10", x.tyre(1, 3, 50), 6);
        c.refused(x, "20: 7 and 10", x.tyre(1, strake, 50), 7);
        c.refused(x, "20: 7 and 10 and 12", x.tyre(1, strake, -1), 7);
        Yards.frame(x, 1, 28);
        c.refused(x, "20: 6 and 7", x.tyre(1, 3, 50), 6);
        c.refused(x, "20: 6 and 12", x.tyre(1, 17, 100), 6);
        c.refused(x, "20: 6 and 13", x.tyre(1, 17, 0), 6);
        c.due("21: off() after 6", x.off(), 0);
        c.refused(x, "20: 7 and 12", x.tyre(1, strake, 100), 7);
        c.refused(x, "20: 7 and 13", x.tyre(1, shortOne, 50), 7);
        c.due("21: off() after 7", x.off(), 0);
        c.refused(x, "20: 7 and 14", x.tyre(1, longOne, 50), 7);
        c.due("21: off() after 7", x.off(), 0);
        x.heatRow(NONE, 0);
        c.refused(x, "20: 6 and 11", x.tyre(1, 17, 50), 6);
        c.refused(x, "20: 7 and 11", x.tyre(1, strake, 50), 7);
    }

    /** Terms 3: 10 ahead of 11, 12, 13, 14, 15. */
    private static void tenAheadOfLater() {
        int[] places = {0, 8, 12, 16};
        for (int place : places) {
            WheelYard x = Yards.withFramedWheel();
            x.out(0, place);
            c.refused(x, "20: 10 and 12", x.tyre(0, tyreOf(x, 610), 100), 10);
            c.refused(x, "20: 10 and 13", x.tyre(0, tyreOf(x, 610), 0), 10);
            c.due("21: off() after 10", x.off(), 0);
            c.refused(x, "20: 10 and 14", x.tyre(0, tyreOf(x, 30000), 50), 10);
            c.due("21: off() after 10", x.off(), 0);
            c.refused(x, "20: 10 and 15", x.tyre(0, tyreOf(x, 599), 99), 10);
            c.due("21: off() after 10", x.off(), 0);
            x.heatRow(NONE, 0);
            c.refused(x, "20: 10 and 11", x.tyre(0, tyreOf(x, 610), 50), 10);
        }
    }

    /** Terms 3: 11 and 12 ahead of 14 and 15. */
    private static void heatAheadOfLengths() {
        WheelYard x = Yards.withFramedWheel();
        int longOne = tyreOf(x, 30000);
        int shortOne = tyreOf(x, 500);
        c.refused(x, "20: 12 and 14", x.tyre(0, longOne, 100), 12);
        c.due("21: off() after 12", x.off(), 0);
        c.refused(x, "20: 12 and 15", x.tyre(0, shortOne, -1), 12);
        c.due("21: off() after 12", x.off(), 0);
        x.heatRow(NONE, 0);
        c.refused(x, "20: 11 and 14", x.tyre(0, longOne, 100), 11);
        c.due("21: off() after 11", x.off(), 0);
        c.refused(x, "20: 11 and 15", x.tyre(0, shortOne, -1), 11);
        c.due("21: off() after 11", x.off(), 0);
    }

    /** Terms 3: 13 ahead of 14 and 15. */
    private static void thirteenAheadOfLater() {
        WheelYard x = Yards.withFramedWheel();
        int[] lengths = {629, 630, 635, 636};
        for (int length : lengths) {
            c.refused(x, "20: 13 and 14, " + length, x.tyre(0, tyreOf(x, length), 0), 13);
            c.due("21: off()", x.off(), 637 - length);
        }
        c.refused(x, "20: 13 and 15, 599 at 60", x.tyre(0, tyreOf(x, 599), 60), 13);
        c.due("21: off()", x.off(), 3);
        c.refused(x, "20: 15 alone, 599 at 64", x.tyre(0, tyreOf(x, 599), 64), 15);
        c.due("21: off()", x.off(), 1);
    }

    /** 21: "if the latest tyre() was refused so; else 0": after a 13 each other REASON, and none, makes it 0. */
    private static void offAfterEachReason() {
        int[] reasons = {1, 3, 4, 6, 7, 10, 11, 12, 0};
        for (int reason : reasons) {
            WheelYard x = Yards.withFramedWheel();
            x.wheel(8, 100, 10, 101);
            int tyre = tyreOf(x, 610);
            int strake = x.piece(5, 0, 0, 1);
            c.refused(x, "20: too short", x.tyre(0, tyre, 0), 13);
            c.due("21: off()", x.off(), 27);
            if (reason == 4) {
                x.put(0, 20, strake);
            } else if (reason == 11) {
                x.heatRow(NONE, 0);
            }
            c.due("21: off() still", x.off(), 27);
            int w = reason == 1 ? 2 : reason == 10 ? 1 : 0;
            int p = reason == 3 ? 99 : reason == 6 ? 0 : reason == 7 ? strake : tyre;
            c.due("20: tyre()", x.tyre(w, p, reason == 12 ? 200 : 50) ? 1 : 0, reason == 0 ? 1 : 0);
            c.due("20: its REASON", x.why(), reason);
            c.due("21: off() after REASON " + reason, x.off(), 0);
        }
    }

    /** 21: each of 13, 14, 15 after each other. */
    private static void offIsOfTheLatestTyre() {
        WheelYard x = Yards.withFramedWheel();
        int[] lengths = {610, 635, 594};
        int[] degrees = {0, 50, 99};
        int[] due = {27, 7, 6};
        for (int length : lengths) {
            tyreOf(x, length);
        }
        int[] order = {0, 1, 2, 0, 2, 1, 0, 0};
        for (int i : order) {
            c.refused(x, "20: tyre(0, " + (17 + i) + ", ..)", x.tyre(0, 17 + i, degrees[i]), 13 + i);
            c.due("21: off()", x.off(), due[i]);
            c.due("21: off() again", x.off(), due[i]);
        }
    }

    /** 21: "the latest tyre()": what other calls do, refused or not, leaves it. */
    private static void offStaysWithOtherCalls() {
        WheelYard x = Yards.withFramedWheel();
        x.tyre(0, tyreOf(x, 629), 50);
        x.put(0, 17, 17);
        x.heated(5, 500);
        x.years(1);
        x.keep();
        x.wheel(8, 100, 10, 101);
        x.fill(1);
        x.plan(0);
        x.heatRow(NONE, 0);
        x.out(0, 0);
        c.due("21: off()", x.off(), 1);
        x.undo();
        c.due("21: off() after undo()", x.off(), 1);
    }
}
