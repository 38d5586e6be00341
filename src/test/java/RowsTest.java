/** Promises 1 to 10: a new object, REASONS, ROWS, STRENGTHS, HEAT, YEAR and measure. */
public final class RowsTest {
    private static final int NONE = WheelYard.NONE;
    private static final Checks c = new Checks();

    public static void main(String[] args) {
        newObject();
        why();
        whyStaysAsItWas();
        whyIsZeroAfterEachCall();
        dampRow();
        damp();
        dampAt();
        strength();
        heatRow();
        heated();
        years();
        measure();
        c.end();
    }

    private static void newObject() {
        WheelYard x = new WheelYard();
        c.due("1: why()", x.why(), 0);
        c.due("1: off()", x.off(), 0);
        for (int what = 0; what <= 5; what++) {
            c.due("1: count(" + what + ")", x.count(what), 0);
        }
        for (int wood = 0; wood < 4; wood++) {
            c.due("1: dampAt(" + wood + ", 0)", x.dampAt(wood, 0), NONE);
        }
        c.due("1: planned(0)", x.planned(0), NONE);
        c.refused(x, "1: heated(5, 0)", x.heated(5, 0), 11);
        c.refused(x, "1: told(0, 0)", x.told(0, 0), 1);
        c.refused(x, "1: about(0, 0)", x.about(0, 0), 3);
        c.due("1: undo()", x.undo() ? 1 : 0, 0);
        WheelYard other = new WheelYard();
        other.years(5);
        other.piece(4, 0, 0, 7);
        c.due("1: objects are apart", x.count(0) + x.count(1), 0);
    }

    private static void why() {
        WheelYard x = new WheelYard();
        c.refused(x, "2: strength(9, 9)", x.strength(9, 9), 17);
        c.due("2: why() again", x.why(), 17);
        c.refused(x, "2: told(0, 99)", x.told(0, 99), 1);
        c.agreed(x, "2: strength(0, 9)", x.strength(0, 9));
        c.refused(x, "2: years(-1)", x.years(-1), 17);
        c.agreed(x, "2: years(0)", x.years(0), 0);
    }

    /** Calls that tell no REASONS leave the REASON of the one before them. */
    private static void whyStaysAsItWas() {
        WheelYard x = new WheelYard();
        c.refused(x, "2: bears(0)", x.bears(0), 3);
        x.dampAt(0, 0);
        x.dampAt(4, 0);
        x.measure(1, 1);
        x.measure(0, 0);
        x.off();
        x.planned(0);
        x.count(0);
        x.count(6);
        x.undo();
        x.keep();
        x.undo();
        c.due("2: why() after calls without REASONS", x.why(), 3);
        x.heatRow(1, 1);
        x.measure(0, 0);
        x.count(-1);
        c.due("2: why() after calls without REASONS", x.why(), 0);
        c.refused(x, "2: missing(0)", x.missing(0), 1);
        c.refused(x, "2: piece(9, 0, 0, 1)", x.piece(9, 0, 0, 1), 17);
    }

    /** Each call that tells REASONS and is not refused leaves 0, whatever was refused ahead of it. */
    private static void whyIsZeroAfterEachCall() {
        WheelYard x = Yards.withTyre();
        x.wheel(8, 100, 10, 101);
        for (int what = 0; what <= 8; what++) {
            x.told(9, 0);
            c.agreed(x, "2: about(0, " + what + ")", x.about(0, what), x.about(0, what));
            x.told(9, 0);
            c.agreed(x, "2: told(0, " + what + ")", x.told(0, what), x.told(0, what));
        }
        int[] due = {1, 1, 1, 1, 1, 5, 0, 18, 19, 2, 1, 1, 17, 28, 7, 1, NONE, 220000, 220000, 0, 1, 1, 0, 0};
        for (int call = 0; call < due.length; call++) {
            x.told(9, 0);
            c.due("2: the REASON ahead of call " + call, x.why(), 1);
            c.agreed(x, "2: call " + call, call < 10 ? oneCall(x, call) : laterCall(x, call), due[call]);
        }
    }

    private static int oneCall(WheelYard x, int call) {
        switch (call) {
            case 0: return x.dampRow(0, 60, 10) ? 1 : 0;
            case 1: return x.damp(0, 5, 10) ? 1 : 0;
            case 2: return x.strength(0, 100) ? 1 : 0;
            case 3: return x.heatRow(100, 100) ? 1 : 0;
            case 4: return x.turn(0, 0) ? 1 : 0;
            case 5: return x.heated(5, 0);
            case 6: return x.years(0);
            case 7: return x.piece(0, 0, 0, 8);
            case 8: return x.piece(4, 0, 0, 610);
            default: return x.wheel(8, 100, 10, 101);
        }
    }

    private static int laterCall(WheelYard x, int call) {
        switch (call) {
            case 10: return x.put(1, 0, 18) ? 1 : 0;
            case 11: return x.at(0, 1);
            case 12: return x.out(0, 17);
            case 13: return x.space(0);
            case 14: return x.gap(0, 0);
            case 15: return x.tyre(0, 17, 50) ? 1 : 0;
            case 16: return x.missing(0);
            case 17: return x.bears(1);
            case 18: return x.carries(0);
            case 19: return x.weakest(0);
            case 20: return x.turn(0, 1) ? 1 : 0;
            case 21: return x.alike(0, 0, 0);
            case 22: return x.plan(0);
            default: return x.fill(0);
        }
    }

    private static void dampRow() {
        WheelYard x = new WheelYard();
        c.agreed(x, "3: dampRow(3, 60, 100)", x.dampRow(3, 60, 100));
        c.due("3: dampAt(3, 0)", x.dampAt(3, 0), 100);
        c.due("3: dampAt(3, 59)", x.dampAt(3, 59), 100);
        c.due("3: dampAt(3, 60)", x.dampAt(3, 60), NONE);
        c.agreed(x, "3: dampRow(3, 2, 0)", x.dampRow(3, 2, 0));
        c.due("3: dampAt(3, 1)", x.dampAt(3, 1), 0);
        c.due("3: dampAt(3, 2)", x.dampAt(3, 2), NONE);
        c.due("3: dampAt(2, 1)", x.dampAt(2, 1), NONE);
        c.agreed(x, "3: dampRow(3, 0, 4)", x.dampRow(3, 0, 4));
        c.due("3: dampAt(3, 0)", x.dampAt(3, 0), NONE);
        c.agreed(x, "3: dampRow(3, 3, 4)", x.dampRow(3, 3, 4));
        c.refused(x, "3: dampRow(3, 61, 4)", x.dampRow(3, 61, 4), 17);
        c.refused(x, "3: dampRow(3, -2, 4)", x.dampRow(3, -2, 4), 17);
        c.refused(x, "3: dampRow(3, 1, -1)", x.dampRow(3, 1, -1), 17);
        c.refused(x, "3: dampRow(3, 1, 101)", x.dampRow(3, 1, 101), 17);
        c.refused(x, "3: dampRow(3, NONE, 101)", x.dampRow(3, NONE, 101), 17);
        c.refused(x, "3: dampRow(4, 1, 1)", x.dampRow(4, 1, 1), 17);
        c.refused(x, "3: dampRow(-1, 1, 1)", x.dampRow(-1, 1, 1), 17);
        c.due("3: dampAt(3, 2) is as it was", x.dampAt(3, 2), 4);
        c.agreed(x, "3: dampRow(3, NONE, 1)", x.dampRow(3, NONE, 1));
        c.due("3: dampAt(3, 0)", x.dampAt(3, 0), NONE);
    }

    private static void damp() {
        WheelYard x = new WheelYard();
        x.dampRow(0, 3, 30);
        x.dampRow(1, 3, 30);
        c.agreed(x, "4: damp(0, 0, 100)", x.damp(0, 0, 100));
        c.agreed(x, "4: damp(0, 2, 0)", x.damp(0, 2, 0));
        c.due("4: dampAt(0, 0)", x.dampAt(0, 0), 100);
        c.due("4: dampAt(0, 1)", x.dampAt(0, 1), 30);
        c.due("4: dampAt(0, 2)", x.dampAt(0, 2), 0);
        c.due("4: dampAt(1, 0)", x.dampAt(1, 0), 30);
        c.refused(x, "4: damp(0, 3, 1)", x.damp(0, 3, 1), 17);
        c.refused(x, "4: damp(0, -1, 1)", x.damp(0, -1, 1), 17);
        c.refused(x, "4: damp(0, 1, 101)", x.damp(0, 1, 101), 17);
        c.refused(x, "4: damp(0, 1, -1)", x.damp(0, 1, -1), 17);
        c.refused(x, "4: damp(2, 0, 1)", x.damp(2, 0, 1), 17);
        c.refused(x, "4: damp(4, 0, 1)", x.damp(4, 0, 1), 17);
        c.refused(x, "4: damp(-1, 0, 1)", x.damp(-1, 0, 1), 17);
        c.due("4: dampAt(0, 1) is as it was", x.dampAt(0, 1), 30);
        x.dampRow(0, 1, 7);
        c.refused(x, "4: damp(0, 1, 1)", x.damp(0, 1, 1), 17);
        x.dampRow(0, NONE, 7);
        c.refused(x, "4: damp(0, 0, 1)", x.damp(0, 0, 1), 17);
    }

    private static void dampAt() {
        WheelYard x = new WheelYard();
        x.dampRow(0, 60, 21);
        c.due("5: dampAt(0, 59)", x.dampAt(0, 59), 21);
        c.due("5: dampAt(0, -1)", x.dampAt(0, -1), NONE);
        c.due("5: dampAt(0, 60)", x.dampAt(0, 60), NONE);
        c.due("5: dampAt(0, least)", x.dampAt(0, Integer.MIN_VALUE), NONE);
        c.due("5: dampAt(0, most)", x.dampAt(0, Integer.MAX_VALUE), NONE);
        c.due("5: dampAt(-1, 0)", x.dampAt(-1, 0), NONE);
        c.due("5: dampAt(4, 0)", x.dampAt(4, 0), NONE);
        c.due("5: dampAt(most, 0)", x.dampAt(Integer.MAX_VALUE, 0), NONE);
    }

    private static void strength() {
        WheelYard x = new WheelYard();
        x.dampRow(1, 1, 20);
        x.piece(1, 1, 0, 5);
        c.due("6: bears(0) at first", x.bears(0), 100 * 20 * 100);
        c.agreed(x, "6: strength(1, 1)", x.strength(1, 1));
        c.due("6: bears(0)", x.bears(0), 20 * 100);
        c.agreed(x, "6: strength(1, 1000)", x.strength(1, 1000));
        c.agreed(x, "6: strength(0, 5)", x.strength(0, 5));
        c.refused(x, "6: strength(1, 1001)", x.strength(1, 1001), 17);
        c.refused(x, "6: strength(1, 0)", x.strength(1, 0), 17);
        c.refused(x, "6: strength(-1, 1)", x.strength(-1, 1), 17);
        c.refused(x, "6: strength(4, 1)", x.strength(4, 1), 17);
        c.due("6: bears(0) is as it was", x.bears(0), 1000 * 20 * 100);
    }

    private static void heatRow() {
        WheelYard x = new WheelYard();
        c.agreed(x, "7: heatRow(200, 100)", x.heatRow(200, 100));
        c.due("7: heated(30000, 199)", x.heated(30000, 199), 30000 + 5970);
        c.agreed(x, "7: heatRow(3, 7)", x.heatRow(3, 7));
        c.due("7: heated(30000, 2)", x.heated(30000, 2), 30004);
        c.refused(x, "7: heatRow(201, 1)", x.heatRow(201, 1), 17);
        c.refused(x, "7: heatRow(-2, 1)", x.heatRow(-2, 1), 17);
        c.refused(x, "7: heatRow(1, -1)", x.heatRow(1, -1), 17);
        c.refused(x, "7: heatRow(1, 101)", x.heatRow(1, 101), 17);
        c.refused(x, "7: heatRow(NONE, 101)", x.heatRow(NONE, 101), 17);
        c.due("7: heated(30000, 2) is as it was", x.heated(30000, 2), 30004);
        c.agreed(x, "7: heatRow(3, 0)", x.heatRow(3, 0));
        c.due("7: heated(30000, 2)", x.heated(30000, 2), 30000);
        c.agreed(x, "7: heatRow(0, 5)", x.heatRow(0, 5));
        c.refused(x, "7: heated(1, 0), no number at all", x.heated(1, 0), 12);
        c.agreed(x, "7: heatRow(NONE, 5)", x.heatRow(NONE, 5));
        c.refused(x, "7: heated(1, 0), MISSING", x.heated(1, 0), 11);
    }

    private static void heated() {
        WheelYard x = new WheelYard();
        c.refused(x, "8: heated(-1, 0), ahead of 11", x.heated(-1, 0), 17);
        c.refused(x, "8: heated(30001, 0), ahead of 11", x.heated(30001, 0), 17);
        c.refused(x, "8: heated(0, -1), ahead of 12", x.heated(0, -1), 11);
        x.heatRow(10, 100);
        c.refused(x, "8: heated(30001, 10), ahead of 12", x.heated(30001, 10), 17);
        c.refused(x, "8: heated(0, 10)", x.heated(0, 10), 12);
        c.refused(x, "8: heated(0, -1)", x.heated(0, -1), 12);
        c.agreed(x, "8: heated(0, 9)", x.heated(0, 9), 0);
        c.agreed(x, "8: heated(111, 9)", x.heated(111, 9), 111);
        c.agreed(x, "8: heated(112, 9)", x.heated(112, 9), 113);
        c.agreed(x, "8: heated(30000, 9)", x.heated(30000, 9), 30270);
        c.agreed(x, "8: heated(30000, 0)", x.heated(30000, 0), 30000);
        x.heatRow(10, 1);
        c.agreed(x, "8: heated(11111, 9) grows by less than 1", x.heated(11111, 9), 11111);
        c.agreed(x, "8: heated(11112, 9) grows by 1", x.heated(11112, 9), 11113);
    }

    private static void years() {
        WheelYard x = new WheelYard();
        c.agreed(x, "9: years(0)", x.years(0), 0);
        c.agreed(x, "9: years(100)", x.years(100), 100);
        c.agreed(x, "9: years(1)", x.years(1), 101);
        c.refused(x, "9: years(-1)", x.years(-1), 17);
        c.refused(x, "9: years(101)", x.years(101), 17);
        c.due("9: count(0)", x.count(0), 101);
    }

    private static void measure() {
        WheelYard x = new WheelYard();
        c.due("10: measure(1, 2)", x.measure(1, 2), 6);
        c.due("10: measure(1, 7)", x.measure(1, 7), 1);
        c.due("10: measure(-7, -2)", x.measure(-7, -2), 42);
        c.due("10: measure(0, -5)", x.measure(0, -5), 0);
        c.due("10: measure(0, 5)", x.measure(0, 5), 0);
        c.due("10: measure(-1, 1000)", x.measure(-1, 1000), NONE);
        c.due("10: measure(1, -1000)", x.measure(1, -1000), NONE);
        c.due("10: measure(0, 0)", x.measure(0, 0), NONE);
        c.due("10: measure(5, 0)", x.measure(5, 0), NONE);
        c.due("10: measure(-5, 0)", x.measure(-5, 0), NONE);
        c.due("10: measure(2500, 1)", x.measure(2500, 1), 30000);
        c.due("10: measure(25001, 10)", x.measure(25001, 10), NONE);
        c.due("10: measure(2147483647, 1)", x.measure(Integer.MAX_VALUE, 1), NONE);
        c.due("10: measure(most, most)", x.measure(Integer.MAX_VALUE, Integer.MAX_VALUE), 12);
        c.due("10: measure(least, least)", x.measure(Integer.MIN_VALUE, Integer.MIN_VALUE), 12);
        // Floats round where doubles and whole numbers do not, and so does the one multiplied first.
        c.due("10: measure(850162, 415)", x.measure(850162, 415), 24583);
        c.due("10: measure(most - 1, most)", x.measure(Integer.MAX_VALUE - 1, Integer.MAX_VALUE), 12);
        c.due("10: measure(250000001, 100000)", x.measure(250000001, 100000), 30000);
        c.due("10: measure(250000010, 100000)", x.measure(250000010, 100000), NONE);
        c.due("10: measure(0, least)", x.measure(0, Integer.MIN_VALUE), 0);
    }
}
