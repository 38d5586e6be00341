/** Promises 20 and 21: TYRES that go on, and by how much they were off. ROUND is 628, SPACE 28. */
public final class TyreTest {
    private static final Checks c = new Checks();

    public static void main(String[] args) {
        goesOn();
        reasons();
        reasonsInOrder();
        heatReasons();
        tooShort();
        tooLong();
        tooTight();
        offIsOfTheLatest();
        c.end();
    }

    private static void goesOn() {
        WheelYard x = Yards.withFramedWheel();
        int tyre = x.piece(4, 0, 0, 610);
        c.agreed(x, "20: tyre(0, 17, 50)", x.tyre(0, tyre, 50));
        c.due("21: off()", x.off(), 0);
        c.due("20: at(0, 17)", x.at(0, 17), tyre);
        c.due("20: its WHEEL", x.about(tyre, 6), 0);
        c.due("20: its place", x.about(tyre, 7), 17);
        c.due("20: it keeps its length", x.about(tyre, 4), 610);
        c.due("20: told(0, 7)", x.told(0, 7), 1);
        WheelYard wet = Yards.withFramedWheel();
        wet.dampRow(0, -1, 0);
        c.agreed(wet, "20: DAMP is not asked", wet.tyre(0, wet.piece(4, 0, 0, 610), 50));
    }

    private static void reasons() {
        WheelYard x = Yards.withFramedWheel();
        x.wheel(8, 100, 10, 101);
        int tyre = x.piece(4, 0, 0, 610);
        c.refused(x, "20: no such WHEEL", x.tyre(2, tyre, 50), 1);
        c.refused(x, "20: no such WHEEL", x.tyre(-1, tyre, 50), 1);
        c.refused(x, "20: no such PIECE", x.tyre(0, 18, 50), 3);
        c.refused(x, "20: no such PIECE", x.tyre(0, -1, 50), 3);
        c.refused(x, "20: not FREE", x.tyre(0, 3, 50), 6);
        int strake = x.piece(5, 0, 0, 610);
        c.refused(x, "20: another SORT", x.tyre(0, strake, 50), 7);
        c.refused(x, "20: all places are empty", x.tyre(1, tyre, 50), 10);
        for (int place = 0; place <= 16; place++) {
            int gone = x.out(0, place);
            c.refused(x, "20: place " + place + " is empty", x.tyre(0, tyre, 50), 10);
            x.put(0, place, gone);
        }
        c.due("20: nothing came", x.told(0, 6), 0);
        c.agreed(x, "20: tyre(0, 17, 50)", x.tyre(0, tyre, 50));
        c.refused(x, "20: a TYRE is there", x.tyre(0, x.piece(4, 0, 0, 610), 50), 4);
        c.refused(x, "20: not FREE", x.tyre(1, tyre, 50), 6);
    }

    private static void reasonsInOrder() {
        WheelYard x = Yards.withTyre();
        c.refused(x, "20: 1 ahead of 3", x.tyre(1, 99, -1), 1);
        c.refused(x, "20: 3 ahead of 4", x.tyre(0, 99, -1), 3);
        c.refused(x, "20: 4 ahead of 6", x.tyre(0, 17, -1), 4);
        c.refused(x, "20: 4 ahead of 7", x.tyre(0, x.piece(5, 0, 0, 5), -1), 4);
        x.out(0, 0);
        c.refused(x, "20: 6 ahead of 7 and 10", x.tyre(0, 1, -1), 6);
        c.refused(x, "20: 7 ahead of 10", x.tyre(0, 0, -1), 7);
        c.refused(x, "20: 10 ahead of 12", x.tyre(0, 17, -1), 10);
        x.heatRow(-1, 0);
        c.refused(x, "20: 10 ahead of 11", x.tyre(0, 17, -1), 10);
        WheelYard straked = Yards.withBareWheel();
        straked.put(0, 20, straked.piece(5, 0, 0, 5));
        c.refused(straked, "20: a STRAKE is there, far from the TYRE's place",
                straked.tyre(0, straked.piece(4, 0, 0, 610), 50), 4);
    }

    private static void heatReasons() {
        WheelYard x = Yards.withFramedWheel();
        int tyre = x.piece(4, 0, 0, 30000);
        c.refused(x, "20: no number for 100", x.tyre(0, tyre, 100), 12);
        c.refused(x, "20: no number for -1", x.tyre(0, tyre, -1), 12);
        x.heatRow(0, 0);
        c.refused(x, "20: no number for 0", x.tyre(0, tyre, 0), 12);
        x.heatRow(-1, 0);
        c.refused(x, "20: the HEAT ROW is MISSING", x.tyre(0, tyre, 0), 11);
        c.due("21: off()", x.off(), 0);
    }

    private static void tooShort() {
        WheelYard x = Yards.withFramedWheel();
        int tyre = x.piece(4, 0, 0, 610);
        // 610 grows by 26 at 43 degrees and by 27 at 45: 637 is just enough.
        c.refused(x, "20: HEATED to 636", x.tyre(0, tyre, 44), 13);
        c.due("21: off()", x.off(), 1);
        c.refused(x, "20: HEATED to 610", x.tyre(0, tyre, 0), 13);
        c.due("21: off()", x.off(), 27);
        c.agreed(x, "20: HEATED to 637", x.tyre(0, tyre, 45));
        c.due("21: off()", x.off(), 0);
        WheelYard cold = Yards.withFramedWheel();
        int wide = cold.piece(4, 0, 0, 630);
        c.refused(cold, "20: 13 ahead of 14", cold.tyre(0, wide, 0), 13);
        c.due("21: off()", cold.off(), 7);
        int narrow = cold.piece(4, 0, 0, 500);
        c.refused(cold, "20: 13 ahead of 15", cold.tyre(0, narrow, 0), 13);
        c.due("21: off()", cold.off(), 137);
    }

    private static void tooLong() {
        WheelYard x = Yards.withFramedWheel();
        c.refused(x, "20: a TYRE of 629", x.tyre(0, x.piece(4, 0, 0, 629), 50), 14);
        c.due("21: off()", x.off(), 1);
        c.refused(x, "20: a TYRE of 30000", x.tyre(0, x.piece(4, 0, 0, 30000), 0), 14);
        c.due("21: off()", x.off(), 30000 - 628);
        c.agreed(x, "20: a TYRE of 628", x.tyre(0, x.piece(4, 0, 0, 628), 50));
    }

    private static void tooTight() {
        WheelYard x = Yards.withFramedWheel();
        c.refused(x, "20: a DRAW of 29", x.tyre(0, x.piece(4, 0, 0, 599), 99), 15);
        c.due("21: off()", x.off(), 1);
        x.heatRow(200, 100);
        c.refused(x, "20: a DRAW of 78", x.tyre(0, x.piece(4, 0, 0, 550), 199), 15);
        c.due("21: off()", x.off(), 50);
        c.agreed(x, "20: a DRAW of 28", x.tyre(0, x.piece(4, 0, 0, 600), 99));
        c.due("21: off()", x.off(), 0);
    }

    private static void offIsOfTheLatest() {
        WheelYard x = Yards.withFramedWheel();
        int tyre = x.piece(4, 0, 0, 629);
        int[][] wrong = {{9, 17, 50}, {0, 99, 50}, {0, 3, 50}, {0, 17, 200}};
        for (int[] call : wrong) {
            x.tyre(0, tyre, 50);
            c.due("21: off()", x.off(), 1);
            c.due("20: a refused tyre()", x.tyre(call[0], call[1], call[2]) ? 1 : 0, 0);
            c.due("21: off() after another REASON", x.off(), 0);
        }
        x.tyre(0, tyre, 50);
        x.put(0, 99, 0);
        x.years(1);
        x.keep();
        x.undo();
        c.due("21: off() after calls but tyre()", x.off(), 1);
    }
}
