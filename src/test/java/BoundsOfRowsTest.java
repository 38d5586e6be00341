/** Each sentence of promises 1 to 10, and of what Terms 1 says of ROWS, STRENGTHS and the YEAR, that names a bound. */
public final class BoundsOfRowsTest {
    private static final int NONE = WheelYard.NONE;
    private static final Checks c = new Checks();

    public static void main(String[] args) {
        noPiecesAtFirst();
        noWheelsAtFirst();
        allRowsMissingAtFirst();
        strengthsAndYearAtFirst();
        nothingKeptAtFirst();
        noPlanAndNoTyreAtFirst();
        whyIsOfTheLatestCall();
        whyIsLeftByCallsWithoutReasons();
        dampRowWoods();
        dampRowLengths();
        dampRowFirstNumbers();
        dampRowTakesTheRowBeforeAway();
        dampRowMissing();
        dampWoods();
        dampYears();
        dampNumbers();
        dampWithoutRow();
        dampChangesOneNumber();
        dampAtWoodsAndYears();
        dampAtAfterEachLength();
        strengthWoods();
        strengthNumbers();
        heatRowLengths();
        heatRowSteps();
        heatRowNumbers();
        heatedLengths();
        heatedDegrees();
        heatedAsksTheLengthFirst();
        heatedCutsToWhole();
        yearsToAdd();
        yearsGoOnAndOn();
        measureIsNoNumber();
        measureBelowNought();
        measureAboveMost();
        measureCutsTowardsNought();
        measureIsOfFloats();
        c.end();
    }

    /** 1: "No PIECES". */
    private static void noPiecesAtFirst() {
        WheelYard x = new WheelYard();
        c.due("1: count(1)", x.count(1), 0);
        c.due("1: count(2)", x.count(2), 0);
        c.due("1: count(5)", x.count(5), 0);
        int[] pieces = {0, 1, 199, -1, Integer.MAX_VALUE};
        for (int p : pieces) {
            c.refused(x, "1: about(" + p + ", 0)", x.about(p, 0), 3);
            c.refused(x, "1: bears(" + p + ")", x.bears(p), 3);
        }
        c.agreed(x, "1: the first PIECE", x.piece(2, 0, 0, 1), 0);
    }

    /** 1: "no WHEELS". */
    private static void noWheelsAtFirst() {
        WheelYard x = new WheelYard();
        c.due("1: count(3)", x.count(3), 0);
        c.due("1: count(4)", x.count(4), 0);
        int[] wheels = {0, 1, 19, -1, Integer.MAX_VALUE};
        for (int w : wheels) {
            c.refused(x, "1: told(" + w + ", 0)", x.told(w, 0), 1);
            c.refused(x, "1: plan(" + w + ")", x.plan(w), 1);
        }
        c.agreed(x, "1: the first WHEEL", x.wheel(8, 30, 1, 1), 0);
    }

    /** 1: "all ROWS MISSING". */
    private static void allRowsMissingAtFirst() {
        WheelYard x = new WheelYard();
        for (int wood = 0; wood <= 3; wood++) {
            for (int years = 0; years <= 60; years++) {
                c.due("1: dampAt(" + wood + ", " + years + ")", x.dampAt(wood, years), NONE);
            }
            c.refused(x, "1: damp(" + wood + ", 0, 0)", x.damp(wood, 0, 0), 17);
            c.due("1: a PIECE of WOOD " + wood, x.about(x.piece(2, wood, 0, 1), 8), 0);
        }
        c.refused(x, "1: heated(0, 0)", x.heated(0, 0), 11);
        c.refused(x, "1: heated(0, 199)", x.heated(0, 199), 11);
    }

    /** Terms 1: "(100 at first)" and "The YEAR is 0 at first". */
    private static void strengthsAndYearAtFirst() {
        WheelYard x = new WheelYard();
        c.due("1: the YEAR", x.count(0), 0);
        for (int wood = 0; wood <= 3; wood++) {
            x.dampRow(wood, 1, 0);
            int p = x.piece(2, wood, 0, 1);
            c.agreed(x, "1: bears() of WOOD " + wood, x.bears(p), 100 * 20 * 120);
            c.agreed(x, "1: the year of PIECE " + p, x.about(p, 2), 0);
        }
    }

    /** 1: "nothing KEPT". */
    private static void nothingKeptAtFirst() {
        WheelYard x = new WheelYard();
        c.due("1: undo()", x.undo() ? 1 : 0, 0);
        x.years(3);
        x.piece(4, 0, 0, 1);
        x.wheel(8, 30, 1, 1);
        c.due("1: undo() later", x.undo() ? 1 : 0, 0);
        c.due("1: the YEAR after it", x.count(0), 3);
        c.due("1: the PIECE after it", x.count(1), 1);
        c.due("1: the WHEEL after it", x.count(3), 1);
    }

    /** 21: "else 0"; 29: "NONE: .. ahead of any". */
    private static void noPlanAndNoTyreAtFirst() {
        WheelYard x = new WheelYard();
        c.due("21: off() at first", x.off(), 0);
        for (int place = -1; place <= 42; place++) {
            c.due("29: planned(" + place + ") at first", x.planned(place), NONE);
        }
    }

    /** 2: "The REASON of the latest call that was refused, if the latest of those that tell REASONS was; else 0." */
    private static void whyIsOfTheLatestCall() {
        WheelYard x = new WheelYard();
        c.due("2: why() of none", x.why(), 0);
        c.refused(x, "2: a 17", x.years(101), 17);
        c.refused(x, "2: a 1 after it", x.missing(0), 1);
        c.refused(x, "2: a 3 after it", x.bears(0), 3);
        c.refused(x, "2: an 11 after it", x.heated(0, 0), 11);
        c.due("2: why() twice", x.why(), 11);
        c.agreed(x, "2: one that is not refused", x.years(0), 0);
        c.due("2: why() twice", x.why(), 0);
        c.agreed(x, "2: a new PIECE", x.piece(4, 0, 0, 1), 0);
        c.refused(x, "2: a 17 again", x.about(0, 9), 17);
        c.agreed(x, "2: an answer NONE that is no refusal", x.about(0, 6), NONE);
        x.wheel(8, 30, 1, 1);
        x.told(9, 9);
        c.agreed(x, "2: a PLAN that there is not", x.plan(0), NONE);
    }

    /** 2: "if the latest of those that tell REASONS was": each call that tells none, after a 17 and after no refusal. */
    private static void whyIsLeftByCallsWithoutReasons() {
        for (int refused = 0; refused <= 1; refused++) {
            WheelYard x = new WheelYard();
            for (int call = 0; call < 14; call++) {
                x.years(refused == 1 ? -1 : 0);
                withoutReason(x, call);
                c.due("2: why() after call " + call + " without REASONS", x.why(), refused * 17);
            }
        }
    }

    private static void withoutReason(WheelYard x, int call) {
        switch (call) {
            case 0: x.why(); break;
            case 1: x.dampAt(0, 0); break;
            case 2: x.dampAt(-1, 0); break;
            case 3: x.measure(1, 1); break;
            case 4: x.measure(0, 0); break;
            case 5: x.off(); break;
            case 6: x.planned(0); break;
            case 7: x.planned(-1); break;
            case 8: x.count(0); break;
            case 9: x.count(6); break;
            case 10: x.undo(); break;
            case 11: x.keep(); break;
            case 12: x.undo(); break;
            default: x.keep(); break;
        }
    }

    /** 3: "no such WOOD"; Terms 1: "WOODS are 0 to 3". */
    private static void dampRowWoods() {
        WheelYard x = new WheelYard();
        for (int wood = 0; wood <= 3; wood++) {
            c.agreed(x, "3: dampRow(" + wood + ", ..)", x.dampRow(wood, 1, 10 + wood));
        }
        for (int wood : Checks.outside(0, 3)) {
            c.refused(x, "3: dampRow(" + wood + ", ..)", x.dampRow(wood, 1, 5), 17);
            c.refused(x, "3: dampRow(" + wood + ", NONE, ..)", x.dampRow(wood, NONE, 5), 17);
        }
        for (int wood = 0; wood <= 3; wood++) {
            c.due("3: dampAt(" + wood + ", 0)", x.dampAt(wood, 0), 10 + wood);
        }
    }

    /** 3: "n numbers (0 to 60)". */
    private static void dampRowLengths() {
        WheelYard x = new WheelYard();
        int[] lengths = {60, 59, 2, 1, 0};
        for (int n : lengths) {
            c.agreed(x, "3: dampRow(2, " + n + ", 9)", x.dampRow(2, n, 9));
            c.due("3: the last of " + n, x.dampAt(2, n - 1), n == 0 ? NONE : 9);
            c.due("3: one after the last of " + n, x.dampAt(2, n), NONE);
        }
        x.dampRow(2, 2, 9);
        for (int n : Checks.outside(NONE, 60)) {
            c.refused(x, "3: dampRow(2, " + n + ", 1)", x.dampRow(2, n, 1), 17);
            c.due("3: the ROW is as it was", x.dampAt(2, 1), 9);
            c.due("3: and as long as it was", x.dampAt(2, 2), NONE);
        }
    }

    /** 3: "first not 0 to 100". */
    private static void dampRowFirstNumbers() {
        WheelYard x = new WheelYard();
        int[] firsts = {0, 1, 99, 100};
        for (int first : firsts) {
            c.agreed(x, "3: dampRow(0, 3, " + first + ")", x.dampRow(0, 3, first));
            for (int years = 0; years < 3; years++) {
                c.due("3: all are first", x.dampAt(0, years), first);
            }
        }
        for (int first : Checks.outside(0, 100)) {
            c.refused(x, "3: dampRow(0, 1, " + first + ")", x.dampRow(0, 1, first), 17);
            c.refused(x, "3: dampRow(0, 0, " + first + ")", x.dampRow(0, 0, first), 17);
            c.refused(x, "3: dampRow(0, NONE, " + first + ")", x.dampRow(0, NONE, first), 17);
            c.due("3: the ROW is as it was", x.dampAt(0, 2), 100);
        }
    }

    /** 3: "all first": of the ROW before nothing is left, be the new one shorter or longer. */
    private static void dampRowTakesTheRowBeforeAway() {
        WheelYard x = new WheelYard();
        x.dampRow(0, 4, 50);
        x.damp(0, 1, 51);
        x.damp(0, 3, 53);
        x.dampRow(0, 2, 7);
        c.due("3: a shorter ROW's number", x.dampAt(0, 1), 7);
        c.due("3: a shorter ROW's end", x.dampAt(0, 2), NONE);
        x.dampRow(0, 60, 8);
        for (int years = 0; years < 60; years++) {
            c.due("3: a longer ROW's number", x.dampAt(0, years), 8);
        }
    }

    /** 3: "(n NONE) is MISSING". */
    private static void dampRowMissing() {
        WheelYard x = new WheelYard();
        x.dampRow(0, 60, 8);
        x.dampRow(1, 60, 8);
        c.agreed(x, "3: dampRow(0, NONE, 0)", x.dampRow(0, NONE, 0));
        for (int years = 0; years < 60; years++) {
            c.due("3: dampAt(0, " + years + "), MISSING", x.dampAt(0, years), NONE);
        }
        c.agreed(x, "3: dampRow(0, NONE, 100) once more", x.dampRow(0, NONE, 100));
        c.due("3: another WOOD's ROW stays", x.dampAt(1, 59), 8);
        c.agreed(x, "3: dampRow(0, 1, 3)", x.dampRow(0, 1, 3));
        c.due("3: it is there again", x.dampAt(0, 0), 3);
    }

    /** 4: no such WOOD. */
    private static void dampWoods() {
        WheelYard x = new WheelYard();
        for (int wood = 0; wood <= 3; wood++) {
            x.dampRow(wood, 1, 50);
            c.agreed(x, "4: damp(" + wood + ", 0, 1)", x.damp(wood, 0, wood));
        }
        for (int wood : Checks.outside(0, 3)) {
            c.refused(x, "4: damp(" + wood + ", 0, 1)", x.damp(wood, 0, 1), 17);
        }
        for (int wood = 0; wood <= 3; wood++) {
            c.due("4: dampAt(" + wood + ", 0)", x.dampAt(wood, 0), wood);
        }
    }

    /** 4: "no number for that". */
    private static void dampYears() {
        int[] lengths = {1, 2, 59, 60};
        for (int n : lengths) {
            WheelYard x = new WheelYard();
            x.dampRow(3, n, 50);
            c.agreed(x, "4: damp(3, 0, 5)", x.damp(3, 0, 5));
            c.agreed(x, "4: damp(3, " + (n - 1) + ", 6)", x.damp(3, n - 1, 6));
            c.due("4: the last is changed", x.dampAt(3, n - 1), 6);
            for (int years : Checks.outside(0, n - 1)) {
                c.refused(x, "4: damp(3, " + years + ", 5) of " + n, x.damp(3, years, 5), 17);
                c.due("4: no number comes to be", x.dampAt(3, years), NONE);
            }
        }
    }

    /** 4: "v (0 to 100)". */
    private static void dampNumbers() {
        WheelYard x = new WheelYard();
        x.dampRow(0, 1, 50);
        int[] numbers = {0, 1, 99, 100};
        for (int v : numbers) {
            c.agreed(x, "4: damp(0, 0, " + v + ")", x.damp(0, 0, v));
            c.due("4: dampAt(0, 0)", x.dampAt(0, 0), v);
        }
        for (int v : Checks.outside(0, 100)) {
            c.refused(x, "4: damp(0, 0, " + v + ")", x.damp(0, 0, v), 17);
            c.due("4: dampAt(0, 0) is as it was", x.dampAt(0, 0), 100);
        }
    }

    /** 4: "MISSING"; and a ROW of no numbers at all. */
    private static void dampWithoutRow() {
        WheelYard x = new WheelYard();
        c.refused(x, "4: a ROW that never was", x.damp(0, 0, 0), 17);
        x.dampRow(0, 0, 0);
        c.refused(x, "4: a ROW of 0 numbers", x.damp(0, 0, 0), 17);
        c.due("4: it still has none", x.dampAt(0, 0), NONE);
        x.dampRow(0, 5, 0);
        x.dampRow(0, NONE, 0);
        c.refused(x, "4: a ROW that is MISSING again", x.damp(0, 4, 0), 17);
        c.due("4: it still is", x.dampAt(0, 4), NONE);
    }

    /** 4: "The number for so many years .. becomes v": that one alone, of that WOOD alone. */
    private static void dampChangesOneNumber() {
        WheelYard x = new WheelYard();
        for (int wood = 0; wood <= 3; wood++) {
            x.dampRow(wood, 60, 40);
        }
        x.damp(2, 0, 1);
        x.damp(2, 30, 2);
        x.damp(2, 59, 3);
        for (int wood = 0; wood <= 3; wood++) {
            for (int years = 0; years < 60; years++) {
                int there = years == 0 ? 1 : years == 30 ? 2 : years == 59 ? 3 : 40;
                c.due("4: dampAt(" + wood + ", " + years + ")", x.dampAt(wood, years), wood == 2 ? there : 40);
            }
        }
    }

    /** 5: "NONE: it is not known, or no such WOOD; years below 0." */
    private static void dampAtWoodsAndYears() {
        WheelYard x = new WheelYard();
        for (int wood = 0; wood <= 3; wood++) {
            x.dampRow(wood, 60, 4);
            for (int years : Checks.outside(0, 59)) {
                c.due("5: dampAt(" + wood + ", " + years + ")", x.dampAt(wood, years), NONE);
            }
        }
        for (int wood : Checks.outside(0, 3)) {
            c.due("5: dampAt(" + wood + ", 0)", x.dampAt(wood, 0), NONE);
            c.due("5: dampAt(" + wood + ", -1)", x.dampAt(wood, -1), NONE);
        }
    }

    /** Terms 1: "known if its ROW is not MISSING and has a number for these years". */
    private static void dampAtAfterEachLength() {
        for (int n = 0; n <= 60; n++) {
            WheelYard x = new WheelYard();
            x.dampRow(1, n, 0);
            for (int years = -1; years <= 61; years++) {
                boolean known = years >= 0 && years < n;
                c.due("5: dampAt(1, " + years + ") of " + n, x.dampAt(1, years), known ? 0 : NONE);
            }
        }
    }

    /** 6: no such WOOD. */
    private static void strengthWoods() {
        WheelYard x = new WheelYard();
        for (int wood = 0; wood <= 3; wood++) {
            x.dampRow(wood, 1, 0);
            x.piece(2, wood, 0, 1);
            c.agreed(x, "6: strength(" + wood + ", ..)", x.strength(wood, 11 + wood));
        }
        for (int wood : Checks.outside(0, 3)) {
            c.refused(x, "6: strength(" + wood + ", 5)", x.strength(wood, 5), 17);
        }
        for (int wood = 0; wood <= 3; wood++) {
            c.due("6: bears(" + wood + ")", x.bears(wood), (11 + wood) * 20 * 120);
        }
    }

    /** Terms 1: "STRENGTH of each WOOD: 1 to 1000". */
    private static void strengthNumbers() {
        WheelYard x = new WheelYard();
        x.dampRow(3, 1, 0);
        x.piece(2, 3, 0, 1);
        int[] numbers = {1, 2, 999, 1000};
        for (int v : numbers) {
            c.agreed(x, "6: strength(3, " + v + ")", x.strength(3, v));
            c.due("6: bears(0)", x.bears(0), v * 20 * 120);
        }
        for (int v : Checks.outside(1, 1000)) {
            c.refused(x, "6: strength(3, " + v + ")", x.strength(3, v), 17);
            c.due("6: bears(0) is as it was", x.bears(0), 1000 * 20 * 120);
        }
    }

    /** 7: "n numbers (0 to 200) .. or (n NONE) is MISSING". */
    private static void heatRowLengths() {
        WheelYard x = new WheelYard();
        int[] lengths = {200, 199, 2, 1, 0};
        for (int n : lengths) {
            c.agreed(x, "7: heatRow(" + n + ", 100)", x.heatRow(n, 100));
            if (n > 0) {
                c.agreed(x, "7: the last of " + n, x.heated(1000, n - 1), 1000 + n - 1);
            }
            c.refused(x, "7: one after the last of " + n, x.heated(1000, n), 12);
        }
        x.heatRow(2, 100);
        for (int n : Checks.outside(NONE, 200)) {
            c.refused(x, "7: heatRow(" + n + ", 50)", x.heatRow(n, 50), 17);
            c.agreed(x, "7: the ROW is as it was", x.heated(1000, 1), 1001);
            c.refused(x, "7: and as long as it was", x.heated(1000, 2), 12);
        }
        c.agreed(x, "7: heatRow(NONE, 0)", x.heatRow(NONE, 0));
        c.refused(x, "7: MISSING", x.heated(1000, 0), 11);
        c.agreed(x, "7: heatRow(NONE, 100) once more", x.heatRow(NONE, 100));
        c.refused(x, "7: MISSING", x.heated(1000, 0), 11);
        c.agreed(x, "7: heatRow(1, 0)", x.heatRow(1, 0));
        c.agreed(x, "7: it is there again", x.heated(1000, 0), 1000);
    }

    /** 7: "step not 0 to 100". */
    private static void heatRowSteps() {
        WheelYard x = new WheelYard();
        int[] steps = {0, 1, 99, 100};
        for (int step : steps) {
            c.agreed(x, "7: heatRow(200, " + step + ")", x.heatRow(200, step));
            c.agreed(x, "7: heated(10000, 199)", x.heated(10000, 199), 10000 + 199 * step / 10);
        }
        for (int step : Checks.outside(0, 100)) {
            c.refused(x, "7: heatRow(200, " + step + ")", x.heatRow(200, step), 17);
            c.refused(x, "7: heatRow(0, " + step + ")", x.heatRow(0, step), 17);
            c.refused(x, "7: heatRow(NONE, " + step + ")", x.heatRow(NONE, step), 17);
            c.agreed(x, "7: the ROW is as it was", x.heated(10000, 199), 11990);
        }
    }

    /** 7: "the number for degree d being step times d", the first for degree 0. */
    private static void heatRowNumbers() {
        WheelYard x = new WheelYard();
        x.heatRow(200, 10);
        for (int degree = 0; degree < 200; degree++) {
            c.agreed(x, "7: heated(10000, " + degree + ")", x.heated(10000, degree), 10000 + degree);
        }
    }

    /** 8: "A length (0 to 30000)". */
    private static void heatedLengths() {
        WheelYard x = new WheelYard();
        x.heatRow(200, 100);
        int[] lengths = {0, 1, 29999, 30000};
        int[] due = {0, 1, 35968, 35970};
        for (int i = 0; i < lengths.length; i++) {
            c.agreed(x, "8: heated(" + lengths[i] + ", 199)", x.heated(lengths[i], 199), due[i]);
        }
        for (int length : Checks.outside(0, 30000)) {
            c.refused(x, "8: heated(" + length + ", 0)", x.heated(length, 0), 17);
        }
    }

    /** 8: 11 and 12. */
    private static void heatedDegrees() {
        int[] lengths = {0, 1, 199, 200};
        for (int n : lengths) {
            WheelYard x = new WheelYard();
            for (int degree : Checks.outside(0, n - 1)) {
                c.refused(x, "8: heated(5, " + degree + "), MISSING", x.heated(5, degree), 11);
            }
            c.refused(x, "8: heated(5, 0), MISSING", x.heated(5, 0), 11);
            x.heatRow(n, 0);
            for (int degree : Checks.outside(0, n - 1)) {
                c.refused(x, "8: heated(5, " + degree + ") of " + n, x.heated(5, degree), 12);
            }
            if (n > 0) {
                c.agreed(x, "8: heated(5, 0) of " + n, x.heated(5, 0), 5);
                c.agreed(x, "8: heated(5, " + (n - 1) + ") of " + n, x.heated(5, n - 1), 5);
            }
        }
    }

    /** 8: "17 (length; asked first)". */
    private static void heatedAsksTheLengthFirst() {
        int[] rows = {NONE, 0, 1, 200};
        for (int n : rows) {
            WheelYard x = new WheelYard();
            x.heatRow(n, 1);
            for (int length : Checks.outside(0, 30000)) {
                for (int degree : Checks.outside(0, n)) {
                    c.refused(x, "8: heated(" + length + ", " + degree + ")", x.heated(length, degree), 17);
                }
            }
        }
    }

    /** Terms 2: "T + T g / 100000 (whole part)". */
    private static void heatedCutsToWhole() {
        WheelYard x = new WheelYard();
        x.heatRow(200, 100);
        c.agreed(x, "8: 99900 / 100000", x.heated(999, 1), 999);
        c.agreed(x, "8: 100000 / 100000", x.heated(1000, 1), 1001);
        c.agreed(x, "8: 199900 / 100000", x.heated(1999, 1), 2000);
        c.agreed(x, "8: 200000 / 100000", x.heated(2000, 1), 2002);
        c.agreed(x, "8: 19900 / 100000", x.heated(1, 199), 1);
        c.agreed(x, "8: 99500 / 100000", x.heated(5, 199), 5);
        c.agreed(x, "8: 119400 / 100000", x.heated(6, 199), 7);
        c.agreed(x, "8: 593995100 / 100000, a little below 5940", x.heated(29849, 199), 29849 + 5939);
        c.agreed(x, "8: 597000000 / 100000, just 5970", x.heated(30000, 199), 30000 + 5970);
    }

    /** 9: "n more (0 to 100)". */
    private static void yearsToAdd() {
        WheelYard x = new WheelYard();
        int[] more = {0, 1, 99, 100, 0};
        int[] due = {0, 1, 100, 200, 200};
        for (int i = 0; i < more.length; i++) {
            c.agreed(x, "9: years(" + more[i] + ")", x.years(more[i]), due[i]);
            c.due("9: count(0)", x.count(0), due[i]);
        }
        for (int n : Checks.outside(0, 100)) {
            c.refused(x, "9: years(" + n + ")", x.years(n), 17);
            c.due("9: count(0) is as it was", x.count(0), 200);
        }
    }

    /** 9: nothing ends the YEARS, and far on no DAMP is known of what was cut at first. */
    private static void yearsGoOnAndOn() {
        WheelYard x = new WheelYard();
        x.dampRow(0, 60, 0);
        x.piece(2, 0, 0, 1);
        for (int i = 1; i <= 500; i++) {
            c.due("9: years(100)", x.years(100), 100 * i);
        }
        c.due("9: DRY in the YEAR 50000", x.about(0, 8), 0);
        c.due("9: cut in the YEAR 50000", x.about(x.piece(2, 0, 0, 1), 2), 50000);
        c.due("9: and DRY", x.about(1, 8), 1);
    }

    /** 10: "NONE: it is no number". */
    private static void measureIsNoNumber() {
        WheelYard x = new WheelYard();
        int[] tops = {0, 1, -1, Integer.MAX_VALUE, Integer.MIN_VALUE};
        for (int a : tops) {
            c.due("10: measure(" + a + ", 0)", x.measure(a, 0), NONE);
        }
    }

    /** 10: "below 0 .. ahead of the cut": also what would be cut to 0. */
    private static void measureBelowNought() {
        WheelYard x = new WheelYard();
        int[][] below = {{-1, 1}, {1, -1}, {-1, 13}, {1, -13}, {-1, Integer.MAX_VALUE}, {1, Integer.MIN_VALUE},
            {Integer.MIN_VALUE, 1}, {Integer.MAX_VALUE, -1}, {Integer.MIN_VALUE, Integer.MAX_VALUE}};
        for (int[] call : below) {
            c.due("10: measure(" + call[0] + ", " + call[1] + ")", x.measure(call[0], call[1]), NONE);
        }
        int[][] nought = {{0, 1}, {0, -1}, {0, Integer.MAX_VALUE}, {0, Integer.MIN_VALUE}, {1, 13}, {-1, -13},
            {1, Integer.MAX_VALUE}, {-1, Integer.MIN_VALUE}};
        for (int[] call : nought) {
            c.due("10: measure(" + call[0] + ", " + call[1] + ")", x.measure(call[0], call[1]), 0);
        }
    }

    /** 10: "above 30000 ahead of the cut": also what would be cut to 30000. */
    private static void measureAboveMost() {
        WheelYard x = new WheelYard();
        c.due("10: 30000", x.measure(2500, 1), 30000);
        c.due("10: 30000 of two below 0", x.measure(-5000, -2), 30000);
        c.due("10: 29999.99", x.measure(2499999, 1000), 29999);
        // 60001 / 24 times 12 is 30000.5, and 2500.0005 times 12 some 30000.006.
        c.due("10: 30000.5", x.measure(60001, 24), NONE);
        c.due("10: 30000.006", x.measure(5000001, 2000), NONE);
        c.due("10: 30012", x.measure(2501, 1), NONE);
        c.due("10: the most there is", x.measure(Integer.MAX_VALUE, 1), NONE);
        c.due("10: the most there is, of two below 0", x.measure(Integer.MIN_VALUE, -1), NONE);
    }

    /** 10: "cut towards 0". */
    private static void measureCutsTowardsNought() {
        WheelYard x = new WheelYard();
        c.due("10: 0.99", x.measure(99, 1200), 0);
        c.due("10: 1", x.measure(1, 12), 1);
        c.due("10: 1.99", x.measure(199, 1200), 1);
        c.due("10: 11.999", x.measure(11999, 12000), 11);
        c.due("10: 12", x.measure(Integer.MIN_VALUE, Integer.MIN_VALUE), 12);
        c.due("10: 11988", x.measure(999, 1), 11988);
    }

    /** 10: "a / b as floats, times 12 as a float": each step is rounded to a float. */
    private static void measureIsOfFloats() {
        WheelYard x = new WheelYard();
        // 16777217 and 16777216 are one float, so that the quotient is 1, and not a little more or less.
        c.due("10: measure(16777217, 16777216)", x.measure(16777217, 16777216), 12);
        c.due("10: measure(16777216, 16777217)", x.measure(16777216, 16777217), 12);
        // Each of these is one less if the product is of doubles, the quotient being a float.
        int[][] due = {{5, 3, 20}, {7, 3, 28}, {10, 3, 40}};
        for (int[] call : due) {
            c.due("10: measure(" + call[0] + ", " + call[1] + ")", x.measure(call[0], call[1]), call[2]);
        }
        // And each of these if all is of doubles, or a times 12 is divided by b.
        int[][] later = {{852652, 415, 24655}, {855557, 415, 24739}, {858462, 415, 24823}, {861367, 415, 24907}};
        for (int[] call : later) {
            c.due("10: measure(" + call[0] + ", " + call[1] + ")", x.measure(call[0], call[1]), call[2]);
        }
    }
}
