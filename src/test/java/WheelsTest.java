/** Promises 13 to 19 and 22: WHEELS, their places, what comes to them and goes, SPACE, GAPS and what is missing. */
public final class WheelsTest {
    private static final int NONE = WheelYard.NONE;
    private static final Checks c = new Checks();

    public static void main(String[] args) {
        wheel();
        mostWheels();
        lengths();
        told();
        at();
        putReasons();
        putOrder();
        putFits();
        putStrakes();
        eachPlaceHasItsSort();
        out();
        outWithTyre();
        space();
        gaps();
        missing();
        c.end();
    }

    private static void wheel() {
        WheelYard x = new WheelYard();
        int[] spokes = {8, 10, 12, 14, 16};
        for (int i = 0; i < spokes.length; i++) {
            c.agreed(x, "13: wheel(" + spokes[i] + ", ..)", x.wheel(spokes[i], 30, 1, 101), i);
            c.due("13: its n", x.told(i, 0), spokes[i]);
        }
        int[] wrongSpokes = {0, 6, 7, 9, 11, 13, 15, 17, 18, -8};
        for (int n : wrongSpokes) {
            c.refused(x, "13: wheel(" + n + ", ..)", x.wheel(n, 30, 1, 101), 17);
        }
        c.refused(x, "13: r 29", x.wheel(8, 29, 1, 101), 17);
        c.refused(x, "13: r 4001", x.wheel(8, 4001, 1, 101), 17);
        c.refused(x, "13: h 0", x.wheel(8, 30, 0, 101), 17);
        c.refused(x, "13: h 2001", x.wheel(8, 30, 2001, 101), 17);
        int[] wrongDishes = {0, -1, -101, 201, 301, 302, 10001, 10199, 10101, 10200, Integer.MAX_VALUE, Integer.MIN_VALUE};
        for (int dish : wrongDishes) {
            c.refused(x, "13: DISH " + dish, x.wheel(8, 30, 1, dish), 17);
        }
        c.due("13: count(3)", x.count(3), 5);
    }

    private static void mostWheels() {
        WheelYard x = new WheelYard();
        for (int w = 0; w < 20; w++) {
            c.agreed(x, "13: wheel " + w, x.wheel(8, 30 + w, 1, 1), w);
        }
        c.refused(x, "13: wheel 20", x.wheel(8, 30, 1, 1), 17);
        c.due("13: count(3)", x.count(3), 20);
        c.due("13: told(19, 1)", x.told(19, 1), 49);
        c.refused(x, "13: told(20, 1)", x.told(20, 1), 1);
    }

    /** STAND, LONG and ROUND. */
    private static void lengths() {
        int[][] due = {
            // r, h, dish, STAND, LONG, ROUND
            {30, 1, 1, 0, 30, 188}, {30, 2000, 100, 0, 30, 188}, {30, 2000, 101, 2000, 2000, 188},
            {30, 100, 200, 1, 30, 188}, {30, 100, 199, 1, 30, 188}, {30, 99, 200, 0, 30, 188},
            {30, 40, 101, 40, 50, 188}, {30, 41, 101, 41, 50, 188}, {300, 399, 101, 399, 499, 1884},
            {300, 400, 101, 400, 500, 1884}, {300, 401, 101, 401, 500, 1884}, {4000, 2000, 101, 2000, 4472, 25132},
            {4000, 2000, 10100, 2000, 4472, 25132}, {113, 7, 203, 4, 113, 710}, {114, 1999, 9899, 1978, 1981, 716},
        };
        WheelYard x = new WheelYard();
        for (int w = 0; w < due.length; w++) {
            int[] row = due[w];
            c.agreed(x, "13: wheel of row " + w, x.wheel(16, row[0], row[1], row[2]), w);
            c.due("14: r of row " + w, x.told(w, 1), row[0]);
            c.due("14: STAND of row " + w, x.told(w, 2), row[3]);
            c.due("14: LONG of row " + w, x.told(w, 3), row[4]);
            c.due("14: ROUND of row " + w, x.told(w, 4), row[5]);
        }
    }

    private static void told() {
        WheelYard x = Yards.withBareWheel();
        int[] due = {8, 100, 10, 100, 628, 0, 0, 0, 21};
        for (int what = 0; what < due.length; what++) {
            c.agreed(x, "14: told(0, " + what + ")", x.told(0, what), due[what]);
        }
        c.refused(x, "14: told(0, 9)", x.told(0, 9), 17);
        c.refused(x, "14: told(0, -1)", x.told(0, -1), 17);
        c.refused(x, "14: told(1, 9), ahead of 17", x.told(1, 9), 1);
        c.refused(x, "14: told(-1, 0)", x.told(-1, 0), 1);
        int[] spokes = {10, 12, 14, 16};
        for (int i = 0; i < spokes.length; i++) {
            x.wheel(spokes[i], 100, 10, 101);
            c.due("14: places for " + spokes[i], x.told(1 + i, 8), spokes[i] / 2 * 5 + 1);
        }
        WheelYard framed = Yards.withFramedWheel();
        c.due("14: framed 5", framed.told(0, 5), 17);
        c.due("14: framed 6", framed.told(0, 6), 0);
        c.due("14: framed 7", framed.told(0, 7), 0);
        WheelYard tyred = Yards.withTyre();
        c.due("14: tyred 5", tyred.told(0, 5), 17);
        c.due("14: tyred 6", tyred.told(0, 6), 1);
        c.due("14: tyred 7", tyred.told(0, 7), 1);
        WheelYard straked = Yards.withStrakes();
        c.due("14: straked 5", straked.told(0, 5), 17);
        c.due("14: straked 6", straked.told(0, 6), 2);
        c.due("14: straked 7", straked.told(0, 7), 1);
        straked.out(0, 17);
        c.due("14: a STRAKE less, 6", straked.told(0, 6), 2);
        c.due("14: a STRAKE less, 7", straked.told(0, 7), 0);
        straked.out(0, 18);
        straked.out(0, 19);
        c.due("14: the last STRAKE alone, 6", straked.told(0, 6), 2);
        straked.out(0, 20);
        c.due("14: no STRAKE, 6", straked.told(0, 6), 0);
    }

    private static void at() {
        WheelYard x = Yards.withTyre();
        c.agreed(x, "15: at(0, 0)", x.at(0, 0), 0);
        c.agreed(x, "15: at(0, 16)", x.at(0, 16), 16);
        c.agreed(x, "15: at(0, 17)", x.at(0, 17), 17);
        c.refused(x, "15: at(0, 18)", x.at(0, 18), 5);
        c.refused(x, "15: at(0, 20)", x.at(0, 20), 5);
        c.refused(x, "15: at(0, 21)", x.at(0, 21), 2);
        c.refused(x, "15: at(0, -1)", x.at(0, -1), 2);
        c.refused(x, "15: at(1, -1), ahead of 2", x.at(1, -1), 1);
        c.refused(x, "15: at(-1, 0)", x.at(-1, 0), 1);
        WheelYard big = new WheelYard();
        big.wheel(16, 100, 1, 1);
        c.refused(big, "15: at(0, 40)", big.at(0, 40), 5);
        c.refused(big, "15: at(0, 41)", big.at(0, 41), 2);
    }

    private static void putReasons() {
        WheelYard x = Yards.withBareWheel();
        x.wheel(8, 100, 10, 101);
        Yards.pieces(x, 2, 0, 0, 8);
        c.agreed(x, "16: put(0, 0, 0)", x.put(0, 0, 0));
        c.due("16: at(0, 0)", x.at(0, 0), 0);
        c.refused(x, "16: no such WHEEL", x.put(2, 0, 1), 1);
        c.refused(x, "16: no such WHEEL", x.put(-1, 0, 1), 1);
        c.refused(x, "16: no such place", x.put(1, 21, 1), 2);
        c.refused(x, "16: no such place", x.put(1, -1, 1), 2);
        c.refused(x, "16: no such PIECE", x.put(1, 0, 2), 3);
        c.refused(x, "16: no such PIECE", x.put(1, 0, -1), 3);
        c.refused(x, "16: something is there", x.put(0, 0, 1), 4);
        c.refused(x, "16: not FREE", x.put(1, 0, 0), 6);
        c.refused(x, "16: another SORT", x.put(1, 1, 1), 7);
        int wide = x.piece(0, 0, 0, 10);
        c.refused(x, "16: doesn't FIT", x.put(1, 0, wide), 8);
        int wet = x.piece(0, 1, 0, 8);
        c.refused(x, "16: not DRY", x.put(1, 0, wet), 9);
        c.due("16: nothing came", x.told(1, 5), 0);
        c.due("16: still FREE", x.about(1, 6), NONE);
        c.agreed(x, "16: put(1, 0, 1)", x.put(1, 0, 1));
    }

    /** The first REASON that holds is told where a later one would, too. */
    private static void putOrder() {
        WheelYard x = Yards.withBareWheel();
        int nave = x.piece(0, 0, 0, 8);
        int wetLong = x.piece(1, 1, 0, 101);
        x.put(0, 0, nave);
        c.refused(x, "16: 1 ahead of 2", x.put(7, 99, 99), 1);
        c.refused(x, "16: 2 ahead of 3", x.put(0, 99, 99), 2);
        c.refused(x, "16: 3 ahead of 4", x.put(0, 0, 99), 3);
        c.refused(x, "16: 4 ahead of 6", x.put(0, 0, nave), 4);
        c.refused(x, "16: 4 ahead of 7", x.put(0, 0, wetLong), 4);
        c.refused(x, "16: 6 ahead of 7", x.put(0, 5, nave), 6);
        c.refused(x, "16: 7 ahead of 8 and 9", x.put(0, 9, wetLong), 7);
        c.refused(x, "16: 8 ahead of 9", x.put(0, 8, wetLong), 8);
        int wet = x.piece(1, 1, 0, 100);
        c.refused(x, "16: 9", x.put(0, 8, wet), 9);
    }

    private static void putFits() {
        WheelYard x = Yards.withBareWheel();
        c.refused(x, "16: a SPOKE of 99", x.put(0, 1, x.piece(1, 0, 0, 99)), 8);
        c.refused(x, "16: a SPOKE of 101", x.put(0, 1, x.piece(1, 0, 0, 101)), 8);
        c.agreed(x, "16: a SPOKE of 100", x.put(0, 1, x.piece(1, 0, 0, 100)));
        c.refused(x, "16: a NAVE of 7", x.put(0, 0, x.piece(0, 0, 0, 7)), 8);
        c.refused(x, "16: a FELLOE of 629", x.put(0, 9, x.piece(3, 0, 0, 629)), 8);
        c.agreed(x, "16: a FELLOE of 600", x.put(0, 12, x.piece(3, 0, 0, 600)));
        c.refused(x, "16: another of 29", x.put(0, 9, x.piece(3, 0, 0, 29)), 8);
        c.agreed(x, "16: another of 28", x.put(0, 9, x.piece(3, 0, 0, 28)));
        c.refused(x, "16: one more of 1", x.put(0, 10, x.piece(3, 0, 0, 1)), 8);
        x.out(0, 12);
        c.agreed(x, "16: a FELLOE of 600 again", x.put(0, 11, x.piece(3, 0, 0, 600)));
        c.agreed(x, "16: any DOWEL", x.put(0, 13, x.piece(2, 0, 0, 30000)));
        WheelYard damp = Yards.withBareWheel();
        damp.dampRow(1, 3, 21);
        damp.damp(1, 1, 20);
        int dowel = damp.piece(2, 1, 0, 1);
        c.refused(damp, "16: DAMP 21", damp.put(0, 13, dowel), 9);
        damp.years(1);
        c.agreed(damp, "16: DAMP 20", damp.put(0, 13, dowel));
        damp.years(1);
        c.due("16: it stays, though not DRY now", damp.at(0, 13), dowel);
    }

    private static void putStrakes() {
        WheelYard x = Yards.withBareWheel();
        int tyre = x.piece(4, 0, 0, 610);
        int strake = x.piece(5, 9, 9, 30000);
        c.refused(x, "16: a TYRE is not put", x.put(0, 17, tyre), 7);
        c.refused(x, "16: nor elsewhere", x.put(0, 18, tyre), 7);
        c.refused(x, "16: a STRAKE at a DOWEL's place", x.put(0, 16, strake), 7);
        c.agreed(x, "16: a STRAKE to a bare WHEEL", x.put(0, 20, strake));
        c.refused(x, "16: a second one there", x.put(0, 20, x.piece(5, 0, 0, 1)), 4);
        c.agreed(x, "16: a second one", x.put(0, 17, x.piece(5, 0, 0, 1)));
        WheelYard tyred = Yards.withTyre();
        int late = tyred.piece(5, 0, 0, 1);
        for (int place = 17; place <= 20; place++) {
            c.refused(tyred, "16: a STRAKE under a TYRE", tyred.put(0, place, late), 4);
        }
        c.refused(tyred, "16: 4 ahead of 6", tyred.put(0, 18, 3), 4);
        tyred.out(0, 17);
        c.agreed(tyred, "16: a STRAKE, the TYRE being gone", tyred.put(0, 18, late));
    }

    private static void eachPlaceHasItsSort() {
        int[] sizes = {16, 100, 1, 1, 1, 1};
        for (int place = 0; place < 41; place++) {
            WheelYard x = new WheelYard();
            x.dampRow(0, 1, 0);
            x.wheel(16, 100, 1, 1);
            int taken = NONE;
            for (int sort = 0; sort <= 5; sort++) {
                if (x.put(0, place, x.piece(sort, 0, 0, sizes[sort]))) {
                    taken = sort;
                    x.out(0, place);
                } else {
                    c.due("16: why() at " + place, x.why(), 7);
                }
            }
            int due = place == 0 ? 0 : place <= 16 ? 1 : place <= 24 ? 3 : place <= 32 ? 2 : 5;
            c.due("16: the SORT of place " + place, taken, due);
        }
    }

    private static void out() {
        WheelYard x = Yards.withStrakes();
        c.refused(x, "17: out(1, 99)", x.out(1, 99), 1);
        c.refused(x, "17: out(-1, 0)", x.out(-1, 0), 1);
        c.refused(x, "17: out(0, 21)", x.out(0, 21), 2);
        c.refused(x, "17: out(0, -1)", x.out(0, -1), 2);
        c.agreed(x, "17: out(0, 5)", x.out(0, 5), 5);
        c.refused(x, "17: out(0, 5) again", x.out(0, 5), 5);
        c.due("17: it is FREE", x.about(5, 6), NONE);
        c.due("17: STRAKES stay", x.told(0, 6), 2);
        c.due("17: at(0, 17)", x.at(0, 17), 17);
        c.agreed(x, "17: out(0, 19)", x.out(0, 19), 19);
        c.due("17: count(2)", x.count(2), 2);
        c.agreed(x, "17: another place takes it", x.put(0, 5, 5));
    }

    private static void outWithTyre() {
        int[] places = {0, 1, 8, 9, 12, 13, 16};
        for (int place : places) {
            WheelYard x = Yards.withTyre();
            c.agreed(x, "17: out(0, " + place + ")", x.out(0, place), place);
            c.due("17: the TYRE went, too", x.told(0, 6), 0);
            c.due("17: it is FREE", x.about(17, 6), NONE);
            c.due("17: it has no place", x.about(17, 7), NONE);
            c.refused(x, "17: at(0, 17)", x.at(0, 17), 5);
            c.due("17: count(2)", x.count(2), 2);
        }
        WheelYard x = Yards.withTyre();
        c.refused(x, "17: out(0, 18)", x.out(0, 18), 5);
        c.agreed(x, "17: out(0, 17)", x.out(0, 17), 17);
        c.due("17: the TYRE alone went", x.told(0, 5), 17);
        c.due("17: count(2)", x.count(2), 1);
    }

    private static void space() {
        WheelYard x = Yards.withBareWheel();
        c.refused(x, "18: space(1)", x.space(1), 1);
        c.refused(x, "18: space(-1)", x.space(-1), 1);
        int[] arcs = {140, 150, 160, 151};
        for (int i = 0; i < arcs.length; i++) {
            c.refused(x, "18: a FELLOE is missing", x.space(0), 10);
            x.put(0, 9 + i, x.piece(3, 0, 0, arcs[i]));
        }
        c.agreed(x, "18: space(0) without all else", x.space(0), 27);
        x.out(0, 12);
        c.refused(x, "18: the last FELLOE is missing", x.space(0), 10);
        x.put(0, 12, x.piece(3, 0, 0, 178));
        c.agreed(x, "18: no SPACE at all", x.space(0), 0);
        WheelYard tyred = Yards.withTyre();
        c.agreed(tyred, "18: a TYRE leaves the SPACE", tyred.space(0), 28);
        WheelYard straked = Yards.withStrakes();
        c.agreed(straked, "18: so do STRAKES", straked.space(0), 28);
    }

    private static void gaps() {
        WheelYard x = Yards.withBareWheel();
        c.refused(x, "19: gap(1, 9), ahead of 17", x.gap(1, 9), 1);
        c.refused(x, "19: gap(0, 9), ahead of 17", x.gap(0, 9), 10);
        int[] arcs = {140, 150, 160, 152};
        for (int i = 0; i < arcs.length; i++) {
            c.refused(x, "19: a FELLOE is missing", x.gap(0, 0), 10);
            x.put(0, 9 + i, x.piece(3, 0, 0, arcs[i]));
        }
        int[] due = {7, 7, 6, 6};
        for (int i = 0; i < due.length; i++) {
            c.agreed(x, "19: gap(0, " + i + ")", x.gap(0, i), due[i]);
        }
        c.refused(x, "19: gap(0, 4)", x.gap(0, 4), 17);
        c.refused(x, "19: gap(0, -1)", x.gap(0, -1), 17);
        gapsWithTyre(628, new int[] {7, 7, 7, 7});
        gapsWithTyre(625, new int[] {6, 6, 6, 7});
        gapsWithTyre(610, new int[] {2, 2, 3, 3});
        gapsWithTyre(600, new int[] {0, 0, 0, 0});
        WheelYard straked = Yards.withStrakes();
        c.agreed(straked, "19: STRAKES leave the GAPS", straked.gap(0, 3), 7);
    }

    private static void gapsWithTyre(int length, int[] due) {
        WheelYard x = Yards.withFramedWheel();
        x.heatRow(200, 100);
        c.agreed(x, "20: a TYRE of " + length, x.tyre(0, x.piece(4, 0, 0, length), 99 + (628 - length) * 3));
        for (int i = 0; i < due.length; i++) {
            c.agreed(x, "19: gap(0, " + i + ") with a TYRE of " + length, x.gap(0, i), due[i]);
        }
    }

    private static void missing() {
        WheelYard x = Yards.withBareWheel();
        c.refused(x, "22: missing(1)", x.missing(1), 1);
        c.refused(x, "22: missing(-1)", x.missing(-1), 1);
        for (int place = 0; place <= 16; place++) {
            c.agreed(x, "22: missing(0)", x.missing(0), place);
            x.put(0, place, Yards.pieceFor(x, place));
        }
        c.agreed(x, "22: missing(0), all but the rim", x.missing(0), 17);
        for (int place = 20; place > 17; place--) {
            x.put(0, place, x.piece(5, 0, 0, 1));
            c.agreed(x, "22: missing(0), some STRAKES", x.missing(0), 17);
        }
        x.put(0, 17, x.piece(5, 0, 0, 1));
        c.agreed(x, "22: missing(0), TRUE", x.missing(0), NONE);
        x.out(0, 20);
        c.agreed(x, "22: missing(0), the last STRAKE gone", x.missing(0), 17);
        x.out(0, 7);
        c.agreed(x, "22: missing(0), a SPOKE gone", x.missing(0), 7);
        WheelYard tyred = Yards.withTyre();
        c.agreed(tyred, "22: missing(0) with a TYRE", tyred.missing(0), NONE);
    }
}
