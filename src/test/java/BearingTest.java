/** Promises 23 to 27: what PIECES and WHEELS BEAR, TURNS, and WHEELS that are alike. */
public final class BearingTest {
    private static final int NONE = WheelYard.NONE;
    private static final Checks c = new Checks();

    public static void main(String[] args) {
        bears();
        bearsWithYears();
        bearsWithWear();
        carries();
        weakest();
        turn();
        turnReasons();
        alike();
        alikeNeedsTheSameShape();
        alikeGaps();
        c.end();
    }

    private static void bears() {
        WheelYard x = new WheelYard();
        x.dampRow(2, 1, 100);
        x.strength(2, 1000);
        c.refused(x, "23: bears(0)", x.bears(0), 3);
        x.piece(2, 2, 9, 5);
        x.piece(4, 2, 9, 5);
        x.piece(5, 2, 9, 5);
        x.piece(0, 3, 0, 5);
        c.agreed(x, "23: bears(0)", x.bears(0), 1000 * 11 * 20);
        c.refused(x, "23: a TYRE", x.bears(1), 7);
        c.refused(x, "23: a STRAKE", x.bears(2), 7);
        c.agreed(x, "23: a DAMP that is not known", x.bears(3), 0);
        c.refused(x, "23: bears(4)", x.bears(4), 3);
        c.refused(x, "23: bears(-1)", x.bears(-1), 3);
        x.dampRow(2, 1, 0);
        c.agreed(x, "23: a DAMP of 0", x.bears(0), 1000 * 11 * 120);
    }

    private static void bearsWithYears() {
        WheelYard x = new WheelYard();
        x.dampRow(0, 2, 30);
        x.damp(0, 1, 7);
        x.years(5);
        x.piece(3, 0, 2, 5);
        c.agreed(x, "23: in its year", x.bears(0), 100 * 18 * 90);
        x.years(1);
        c.agreed(x, "23: a year later", x.bears(0), 100 * 18 * 113);
        x.years(1);
        c.agreed(x, "23: two years later", x.bears(0), 0);
    }

    private static void bearsWithWear() {
        WheelYard x = Yards.withTyre();
        x.strength(0, 1);
        x.turn(0, 9);
        c.agreed(x, "23: WEAR 9", x.bears(0), 2200);
        x.turn(0, 1);
        c.agreed(x, "23: WEAR 10", x.bears(0), 2199);
        x.turn(0, 21980);
        c.agreed(x, "23: WEAR 21990", x.bears(0), 1);
        x.turn(0, 10);
        c.agreed(x, "23: WEAR 22000", x.bears(0), 0);
        x.turn(0, 100000);
        c.agreed(x, "23: at least 0", x.bears(0), 0);
    }

    private static void carries() {
        WheelYard x = Yards.withFramedWheel();
        c.refused(x, "24: carries(1)", x.carries(1), 1);
        c.refused(x, "24: carries(-1)", x.carries(-1), 1);
        c.refused(x, "24: not TRUE", x.carries(0), 16);
        int[] bearing = {0, 1, 8, 9, 12};
        for (int place : bearing) {
            c.due("24: a weak one at " + place, carriesWithWeakOne(place), 100 * 11 * 110);
        }
        c.due("24: a weak DOWEL at 13", carriesWithWeakOne(13), 100 * 20 * 110);
        c.due("24: a weak DOWEL at 16", carriesWithWeakOne(16), 100 * 20 * 110);
        WheelYard straked = Yards.withStrakes();
        c.agreed(straked, "24: with STRAKES", straked.carries(0), 100 * 20 * 110);
        straked.out(0, 20);
        c.refused(straked, "24: with too few", straked.carries(0), 16);
        c.refused(straked, "25: with too few", straked.weakest(0), 16);
        c.due("26: with too few", straked.turn(0, 1) ? 1 : 0, 0);
    }

    private static int carriesWithWeakOne(int place) {
        WheelYard x = Yards.withStrakes();
        int strong = x.out(0, place);
        x.put(0, place, x.piece(x.about(strong, 0), 0, 9, x.about(strong, 4)));
        c.agreed(x, "25: weakest(0)", x.weakest(0), place <= 12 ? place : 0);
        return x.carries(0);
    }

    private static void weakest() {
        WheelYard x = Yards.withTyre();
        c.refused(x, "25: weakest(1)", x.weakest(1), 1);
        c.agreed(x, "25: the first of like ones", x.weakest(0), 0);
        x.turn(0, 4);
        c.agreed(x, "25: FELLOES wear most", x.weakest(0), 9);
        c.agreed(x, "24: carries(0)", x.carries(0), 100 * 20 * 110 - 1);
        x.out(0, 12);
        c.refused(x, "25: not TRUE", x.weakest(0), 16);
    }

    private static void turn() {
        WheelYard x = Yards.withTyre();
        int spare = x.piece(1, 0, 0, 100);
        c.agreed(x, "26: turn(0, 0)", x.turn(0, 0));
        c.due("26: WEAR", x.about(17, 5), 0);
        c.agreed(x, "26: turn(0, 100000)", x.turn(0, 100000));
        c.agreed(x, "26: turn(0, 1)", x.turn(0, 1));
        for (int place = 0; place <= 17; place++) {
            int each = place == 0 ? 1 : place <= 8 ? 2 : place <= 12 ? 3 : place <= 16 ? 1 : 4;
            c.due("26: WEAR of " + place, x.about(place, 5), each * 100001);
        }
        c.due("26: WEAR of a FREE one", x.about(spare, 5), 0);
        WheelYard straked = Yards.withStrakes();
        straked.turn(0, 3);
        for (int p = 17; p <= 20; p++) {
            c.due("26: WEAR of STRAKE " + p, straked.about(p, 5), 12);
        }
        straked.out(0, 17);
        c.due("26: WEAR stays with a FREE PIECE", straked.about(17, 5), 12);
    }

    private static void turnReasons() {
        WheelYard x = Yards.withTyre();
        x.wheel(8, 100, 10, 101);
        c.refused(x, "26: no such WHEEL, ahead of 17", x.turn(2, -1), 1);
        c.refused(x, "26: no such WHEEL", x.turn(-1, 1), 1);
        c.refused(x, "26: not TRUE, ahead of 17", x.turn(1, -1), 16);
        c.refused(x, "26: turn(0, -1)", x.turn(0, -1), 17);
        c.refused(x, "26: turn(0, 100001)", x.turn(0, 100001), 17);
        c.refused(x, "26: turn(0, most)", x.turn(0, Integer.MAX_VALUE), 17);
        c.due("26: WEAR", x.about(17, 5), 0);
    }

    private static void alike() {
        WheelYard x = twoWith(150, 150, true);
        c.refused(x, "27: no such WHEEL", x.alike(0, 2, 0), 1);
        c.refused(x, "27: no such WHEEL", x.alike(2, 0, 0), 1);
        c.refused(x, "27: no such WHEEL, ahead of 17", x.alike(-1, 0, -1), 1);
        c.refused(x, "27: t below 0", x.alike(0, 1, -1), 17);
        c.agreed(x, "27: alike(0, 1, 0)", x.alike(0, 1, 0), 1);
        c.agreed(x, "27: alike(0, 0, 0)", x.alike(0, 0, 0), 1);
        int gone = x.out(1, 20);
        c.agreed(x, "27: the second is not TRUE", x.alike(0, 1, 9999), 0);
        c.agreed(x, "27: the first is not TRUE", x.alike(1, 0, 9999), 0);
        c.agreed(x, "27: one that is not TRUE and itself", x.alike(1, 1, 9999), 0);
        c.refused(x, "27: t below 0, not TRUE", x.alike(1, 1, Integer.MIN_VALUE), 17);
        x.put(1, 20, gone);
        c.agreed(x, "27: the second is TRUE again", x.alike(0, 1, 0), 1);
        WheelYard tyred = twoWith(150, 150, false);
        c.agreed(tyred, "27: a TYRE each", tyred.alike(0, 1, 0), 1);
        tyred.out(1, 17);
        for (int place = 17; place <= 20; place++) {
            tyred.put(1, place, tyred.piece(5, 0, 0, 1));
        }
        c.agreed(tyred, "27: a TYRE and STRAKES", tyred.alike(0, 1, 9999), 0);
    }

    private static void alikeNeedsTheSameShape() {
        int[][] shapes = {{8, 100, 10, 101}, {8, 100, 10, 10000}, {8, 100, 11, 101}, {8, 101, 10, 101},
            {10, 100, 10, 101}, {8, 100, 20, 102}};
        int[] due = {1, 0, 0, 0, 0, 1};
        for (int i = 0; i < shapes.length; i++) {
            int[] shape = shapes[i];
            WheelYard x = new WheelYard();
            x.dampRow(0, 1, 0);
            frame(x, x.wheel(8, 100, 10, 101), 100, true);
            frame(x, x.wheel(shape[0], shape[1], shape[2], shape[3]), 100, true);
            c.due("27: TRUE both", x.count(4), 2);
            c.agreed(x, "27: shape " + i, x.alike(0, 1, 30000), due[i]);
            c.agreed(x, "27: shape " + i + " turned round", x.alike(1, 0, 30000), due[i]);
        }
    }

    private static void alikeGaps() {
        WheelYard x = twoWith(150, 149, true);
        c.agreed(x, "27: GAPS 7 and 8, t 0", x.alike(0, 1, 0), 0);
        c.agreed(x, "27: GAPS 8 and 7, t 0", x.alike(1, 0, 0), 0);
        c.agreed(x, "27: GAPS 7 and 8, t 1", x.alike(0, 1, 1), 1);
        c.agreed(x, "27: GAPS 8 and 7, most t", x.alike(1, 0, Integer.MAX_VALUE), 1);
        // One arc of 2 less: the first two GAPS alone are wider.
        WheelYard y = twoWith(150, 150, true);
        y.out(1, 12);
        y.put(1, 12, y.piece(3, 0, 0, 148));
        c.agreed(y, "27: two GAPS are off", y.alike(0, 1, 0), 0);
        c.agreed(y, "27: two GAPS are off by 1", y.alike(0, 1, 1), 1);
        WheelYard z = twoWith(150, 150, true);
        z.out(1, 12);
        z.put(1, 12, z.piece(3, 0, 0, 151));
        c.agreed(z, "27: the last GAP alone is off", z.alike(0, 1, 0), 0);
        z.out(1, 12);
        z.put(1, 12, z.piece(3, 0, 0, 149));
        c.agreed(z, "27: the first GAP alone is off", z.alike(0, 1, 0), 0);
        c.agreed(z, "27: the first GAP alone is off by 1", z.alike(0, 1, 1), 1);
        WheelYard tyred = twoWith(150, 149, false);
        tyred.out(1, 17);
        tyred.tyre(1, tyred.piece(4, 0, 0, 606), 99);
        c.agreed(tyred, "27: the DRAW makes them alike", tyred.alike(0, 1, 0), 1);
    }

    /** Two WHEELS of ROUND 628, TRUE, with FELLOES of these arcs, and STRAKES or TYRES of 610. */
    private static WheelYard twoWith(int arc, int otherArc, boolean strakes) {
        WheelYard x = new WheelYard();
        x.dampRow(0, 1, 0);
        x.heatRow(100, 100);
        frame(x, x.wheel(8, 100, 10, 101), arc, strakes);
        frame(x, x.wheel(8, 100, 10, 101), otherArc, strakes);
        c.due("27: TRUE both", x.count(4), 2);
        return x;
    }

    private static void frame(WheelYard x, int w, int arc, boolean strakes) {
        int n = x.told(w, 0);
        x.put(w, 0, x.piece(0, 0, 0, n));
        for (int place = 1; place <= n; place++) {
            x.put(w, place, x.piece(1, 0, 0, x.told(w, 3)));
        }
        for (int i = 1; i <= n / 2; i++) {
            x.put(w, n + i, x.piece(3, 0, 0, arc));
            x.put(w, n + n / 2 + i, x.piece(2, 0, 0, 1));
            if (strakes) {
                x.put(w, 2 * n + i, x.piece(5, 0, 0, 1));
            }
        }
        if (!strakes) {
            x.tyre(w, x.piece(4, 0, 0, 610), 50);
        }
    }
}
