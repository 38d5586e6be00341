/** Each sentence of promises 13 to 15 and 22, and of what Terms 2 says of WHEELS and places, that names a bound. */
public final class BoundsOfWheelsTest {
    private static final int NONE = WheelYard.NONE;
    private static final int[] SPOKES = {8, 10, 12, 14, 16};
    private static final Checks c = new Checks();

    public static void main(String[] args) {
        spokes();
        radii();
        halfWidths();
        dishes();
        mostWheels();
        roomAgainAfterUndo();
        refusedOnesTakeNoNumber();
        standIsWhole();
        longIsWhole();
        roundIsWhole();
        toldWhichWheel();
        toldWhat();
        toldAsksTheWheelFirst();
        toldPlaces();
        toldHowManyAreThere();
        toldRim();
        toldTrue();
        trueStaysWhatever();
        atWhichWheel();
        atWhichPlace();
        atEachPlace();
        atAsksInOrder();
        missingWhichWheel();
        missingEachPlace();
        missingRim();
        c.end();
    }

    /** Terms 2: "n SPOKES (8, 10, 12, 14, 16)". */
    private static void spokes() {
        WheelYard x = new WheelYard();
        int made = 0;
        for (int n = -20; n <= 40; n++) {
            boolean allowed = n == 8 || n == 10 || n == 12 || n == 14 || n == 16;
            if (allowed) {
                c.agreed(x, "13: wheel(" + n + ", ..)", x.wheel(n, 30, 1, 1), made);
                c.agreed(x, "14: its n", x.told(made, 0), n);
                made++;
            } else {
                c.refused(x, "13: wheel(" + n + ", ..)", x.wheel(n, 30, 1, 1), 17);
            }
        }
        for (int n : Checks.outside(8, 16)) {
            c.refused(x, "13: wheel(" + n + ", ..)", x.wheel(n, 30, 1, 1), 17);
        }
        c.due("13: count(3)", x.count(3), 5);
    }

    /** Terms 2: "a radius r (30 to 4000)". */
    private static void radii() {
        WheelYard x = new WheelYard();
        int[] radii = {30, 31, 3999, 4000};
        for (int w = 0; w < radii.length; w++) {
            c.agreed(x, "13: r " + radii[w], x.wheel(8, radii[w], 1, 1), w);
            c.agreed(x, "14: its r", x.told(w, 1), radii[w]);
        }
        for (int r : Checks.outside(30, 4000)) {
            c.refused(x, "13: r " + r, x.wheel(8, r, 1, 1), 17);
        }
        c.refused(x, "13: r 0", x.wheel(8, 0, 1, 1), 17);
        c.refused(x, "13: r -100", x.wheel(8, -100, 1, 1), 17);
        c.due("13: count(3)", x.count(3), 4);
    }

    /** Terms 2: "a half width h (1 to 2000)". */
    private static void halfWidths() {
        WheelYard x = new WheelYard();
        int[] widths = {1, 2, 1999, 2000};
        for (int w = 0; w < widths.length; w++) {
            c.agreed(x, "13: h " + widths[w], x.wheel(8, 30, widths[w], 101), w);
            c.agreed(x, "14: its STAND", x.told(w, 2), widths[w]);
        }
        for (int h : Checks.outside(1, 2000)) {
            c.refused(x, "13: h " + h, x.wheel(8, 30, h, 101), 17);
            c.refused(x, "13: h " + h + ", with a DISH of 0", x.wheel(8, 30, h, 1), 17);
        }
        c.due("13: count(3)", x.count(3), 4);
    }

    /** Terms 2: "a DISH a / b (a 0 to b, b 1 to 100)", told as 100 a + b: each one that there is, and all others. */
    private static void dishes() {
        int[] standOf = new int[11001];
        java.util.Arrays.fill(standOf, NONE);
        for (int b = 1; b <= 100; b++) {
            for (int a = 0; a <= b; a++) {
                standOf[100 * a + b] = 1999 * a / b;
            }
        }
        WheelYard x = new WheelYard();
        x.keep();
        for (int dish = -400; dish <= 11000; dish++) {
            if (dish % 100 == 0) {
                x = new WheelYard();
                x.keep();
            }
            int stand = dish < 0 ? NONE : standOf[dish];
            int w = x.wheel(8, 30, 1999, dish);
            c.due("13: DISH " + dish, w, stand == NONE ? NONE : 0);
            c.due("13: why() of DISH " + dish, x.why(), stand == NONE ? 17 : 0);
            if (w == 0) {
                c.due("14: STAND of DISH " + dish, x.told(0, 2), stand);
                x.undo();
            }
        }
        for (int dish : Checks.outside(1, 10100)) {
            c.refused(x, "13: DISH " + dish, x.wheel(8, 30, 1, dish), 17);
        }
    }

    /** Terms 2: "WHEELS are numbered from 0 on, at most 20". 13: "20 are". */
    private static void mostWheels() {
        WheelYard x = new WheelYard();
        for (int w = 0; w < 20; w++) {
            c.agreed(x, "13: WHEEL " + w, x.wheel(SPOKES[w % 5], 30 + w, 1, 1), w);
        }
        for (int n : SPOKES) {
            c.refused(x, "13: one too many", x.wheel(n, 30, 1, 1), 17);
        }
        c.due("13: count(3)", x.count(3), 20);
        for (int w = 0; w < 20; w++) {
            c.agreed(x, "14: n of WHEEL " + w, x.told(w, 0), SPOKES[w % 5]);
            c.agreed(x, "14: r of WHEEL " + w, x.told(w, 1), 30 + w);
        }
    }

    /** 32: "WHEELS made since are no more", so that there is room for them. */
    private static void roomAgainAfterUndo() {
        WheelYard x = new WheelYard();
        for (int w = 0; w < 19; w++) {
            x.wheel(8, 30, 1, 1);
        }
        x.keep();
        c.agreed(x, "13: the last", x.wheel(8, 30, 1, 1), 19);
        c.refused(x, "13: one too many", x.wheel(8, 30, 1, 1), 17);
        x.undo();
        c.agreed(x, "13: the last anew", x.wheel(16, 4000, 2000, 101), 19);
        c.refused(x, "13: one too many anew", x.wheel(8, 30, 1, 1), 17);
        c.agreed(x, "14: its places", x.told(19, 8), 41);
        c.agreed(x, "14: its LONG", x.told(19, 3), 4472);
    }

    /** Terms 3: "What is refused changes nothing but the REASON". */
    private static void refusedOnesTakeNoNumber() {
        WheelYard x = new WheelYard();
        x.wheel(9, 30, 1, 1);
        x.wheel(8, 29, 1, 1);
        x.wheel(8, 30, 0, 1);
        x.wheel(8, 30, 1, 0);
        c.due("13: count(3)", x.count(3), 0);
        c.refused(x, "13: told(0, 0)", x.told(0, 0), 1);
        c.agreed(x, "13: the first", x.wheel(8, 30, 1, 1), 0);
        x.wheel(16, 4001, 1, 1);
        c.agreed(x, "13: the first is as it was", x.told(0, 1), 30);
        c.agreed(x, "13: the second", x.wheel(8, 30, 1, 1), 1);
    }

    /** Terms 2: "STAND is h a / b (whole part)". */
    private static void standIsWhole() {
        int[][] due = {{1, 9900 + 100, 0}, {1, 9999, 1}, {99, 200, 0}, {100, 200, 1}, {199, 200, 1}, {200, 200, 2},
            {2000, 1, 0}, {2000, 100, 0}, {2000, 10100, 2000}, {2000, 102, 1000}, {3, 203, 2}, {2000, 3599, 707}};
        WheelYard x = new WheelYard();
        for (int w = 0; w < due.length; w++) {
            // 10000 is 99 / 100: of h 1 nothing whole.
            x.wheel(8, 30, due[w][0], due[w][1]);
            c.agreed(x, "14: STAND of h " + due[w][0] + ", DISH " + due[w][1], x.told(w, 2), due[w][2]);
        }
    }

    /** Terms 2: "LONG is the greatest whole number whose square is not above r r + STAND STAND". */
    private static void longIsWhole() {
        WheelYard x = new WheelYard();
        int w = 0;
        for (int r = 30; r <= 4000; r += 3) {
            for (int h = r % 7 + 1; h <= 2000; h += 333) {
                if (w == 20) {
                    x = new WheelYard();
                    w = 0;
                }
                x.wheel(8, r, h, 101);
                long square = (long) r * r + (long) h * h;
                long root = x.told(w, 3);
                c.yes("14: LONG " + root + " of " + square, root * root <= square && (root + 1) * (root + 1) > square);
                w++;
            }
        }
        int[][] due = {{30, 40, 50}, {30, 39, 49}, {30, 41, 50}, {300, 400, 500}, {300, 399, 499}, {3000, 1250, 3250},
            {3000, 1249, 3249}, {4000, 2000, 4472}, {4000, 1, 4000}, {30, 7, 30}, {30, 8, 31}};
        WheelYard y = new WheelYard();
        for (int i = 0; i < due.length; i++) {
            y.wheel(8, due[i][0], due[i][1], 101);
            c.agreed(y, "14: LONG of r " + due[i][0] + ", STAND " + due[i][1], y.told(i, 3), due[i][2]);
        }
    }

    /** Terms 2: "ROUND is 710 r / 113 (whole part)". */
    private static void roundIsWhole() {
        WheelYard x = new WheelYard();
        for (int r = 30; r <= 4000; r++) {
            if ((r - 30) % 20 == 0) {
                x = new WheelYard();
            }
            int w = x.wheel(8, r, 1, 1);
            long round = x.told(w, 4);
            c.yes("14: ROUND " + round + " of r " + r, round * 113 <= 710L * r && (round + 1) * 113 > 710L * r);
        }
        int[][] due = {{30, 188}, {112, 703}, {113, 710}, {114, 716}, {226, 1420}, {4000, 25132}, {3955, 24850}};
        WheelYard y = new WheelYard();
        for (int i = 0; i < due.length; i++) {
            y.wheel(8, due[i][0], 1, 1);
            c.agreed(y, "14: ROUND of r " + due[i][0], y.told(i, 4), due[i][1]);
        }
    }

    /** 14: "NONE: 1". */
    private static void toldWhichWheel() {
        int[] counts = {0, 1, 19, 20};
        for (int count : counts) {
            WheelYard x = new WheelYard();
            for (int w = 0; w < count; w++) {
                x.wheel(8, 30, 1, 1);
            }
            for (int w : Checks.outside(0, count - 1)) {
                for (int what = 0; what <= 8; what++) {
                    c.refused(x, "14: told(" + w + ", " + what + ") of " + count, x.told(w, what), 1);
                }
            }
            if (count > 0) {
                c.agreed(x, "14: told(0, 0) of " + count, x.told(0, 0), 8);
                c.agreed(x, "14: told(" + (count - 1) + ", 0)", x.told(count - 1, 0), 8);
            }
        }
    }

    /** 14: "what 0 .. 8 .. NONE: 17". */
    private static void toldWhat() {
        WheelYard x = new WheelYard();
        x.wheel(10, 100, 75, 101);
        int[] due = {10, 100, 75, 125, 628, 0, 0, 0, 26};
        for (int what = 0; what <= 8; what++) {
            c.agreed(x, "14: told(0, " + what + ")", x.told(0, what), due[what]);
        }
        for (int what : Checks.outside(0, 8)) {
            c.refused(x, "14: told(0, " + what + ")", x.told(0, what), 17);
        }
    }

    /** 14: 1 ahead of 17. */
    private static void toldAsksTheWheelFirst() {
        WheelYard x = new WheelYard();
        x.wheel(10, 100, 75, 101);
        for (int w : Checks.outside(0, 0)) {
            for (int what : Checks.outside(0, 8)) {
                c.refused(x, "14: told(" + w + ", " + what + ")", x.told(w, what), 1);
            }
        }
    }

    /** 14: "8 how many places (n + 3 m + 1)". */
    private static void toldPlaces() {
        WheelYard x = new WheelYard();
        int[] due = {21, 26, 31, 36, 41};
        for (int w = 0; w < 5; w++) {
            x.wheel(SPOKES[w], 100, 1, 1);
            c.agreed(x, "14: places of " + SPOKES[w], x.told(w, 8), due[w]);
        }
    }

    /** 14: "5 how many of places 0 to n + 2 m have a PIECE": the rim's are not counted. */
    private static void toldHowManyAreThere() {
        for (int n : SPOKES) {
            WheelYard x = Yards.withBare(n, 100);
            c.agreed(x, "14: none of " + n, x.told(0, 5), 0);
            x.put(0, 2 * n + 1, x.piece(5, 0, 0, 1));
            x.put(0, 2 * n + n / 2, x.piece(5, 0, 0, 1));
            c.agreed(x, "14: STRAKES alone", x.told(0, 5), 0);
            Yards.frame(x, 0, 28);
            c.agreed(x, "14: all of " + n, x.told(0, 5), 2 * n + 1);
            x.out(0, 2 * n);
            c.agreed(x, "14: all but the last DOWEL", x.told(0, 5), 2 * n);
            x.out(0, 0);
            c.agreed(x, "14: and the NAVE", x.told(0, 5), 2 * n - 1);
        }
    }

    /** 14: "6: 0 no TYRE or STRAKE, 1 a TYRE, 2 STRAKES": one STRAKE at any place is enough. */
    private static void toldRim() {
        for (int n : SPOKES) {
            WheelYard x = Yards.withBare(n, 100);
            Yards.frame(x, 0, 28);
            int strake = x.piece(5, 0, 0, 1);
            c.agreed(x, "14: a bare rim", x.told(0, 6), 0);
            for (int place = 2 * n + 1; place <= 2 * n + n / 2; place++) {
                x.put(0, place, strake);
                c.agreed(x, "14: one STRAKE at " + place, x.told(0, 6), 2);
                x.out(0, place);
                c.agreed(x, "14: it is gone", x.told(0, 6), 0);
            }
            x.tyre(0, x.piece(4, 0, 0, 610), 50);
            c.agreed(x, "14: a TYRE", x.told(0, 6), 1);
            x.out(0, 2 * n + 1);
            c.agreed(x, "14: it is gone", x.told(0, 6), 0);
        }
    }

    /** Terms 2: "TRUE if there are PIECES at places 0 to n + 2 m, and a TYRE, or STRAKES at all m places". */
    private static void toldTrue() {
        for (int n : SPOKES) {
            WheelYard x = Yards.withBare(n, 100);
            Yards.frame(x, 0, 28);
            c.agreed(x, "14: a bare rim", x.told(0, 7), 0);
            Yards.strakes(x, 0);
            c.agreed(x, "14: all STRAKES", x.told(0, 7), 1);
            for (int place = 0; place <= 2 * n + n / 2; place++) {
                int gone = x.out(0, place);
                c.agreed(x, "14: without what is at " + place, x.told(0, 7), 0);
                c.due("33: none is TRUE", x.count(4), 0);
                x.put(0, place, gone);
                c.agreed(x, "14: with it again", x.told(0, 7), 1);
            }
            WheelYard y = Yards.withBare(n, 100);
            Yards.frame(y, 0, 28);
            y.tyre(0, y.piece(4, 0, 0, 610), 50);
            c.agreed(y, "14: a TYRE", y.told(0, 7), 1);
            y.out(0, 2 * n + 1);
            c.agreed(y, "14: without it", y.told(0, 7), 0);
        }
    }

    /** Terms 2 ask nothing else of a WHEEL that is TRUE: not that it is DRY, nor that it BEARS something. */
    private static void trueStaysWhatever() {
        WheelYard x = Yards.withTyre();
        x.dampRow(0, NONE, 0);
        x.heatRow(NONE, 0);
        x.years(100);
        x.turn(0, 100000);
        c.agreed(x, "14: all is wet, cold and worn", x.told(0, 7), 1);
        c.due("33: count(4)", x.count(4), 1);
    }

    /** 15: "NONE: 1". */
    private static void atWhichWheel() {
        WheelYard x = Yards.withFramedWheel();
        for (int w : Checks.outside(0, 0)) {
            c.refused(x, "15: at(" + w + ", 0)", x.at(w, 0), 1);
        }
        WheelYard bare = new WheelYard();
        c.refused(bare, "15: no WHEELS at all", bare.at(0, 0), 1);
    }

    private static void atWhichPlace() {
        for (int n : SPOKES) {
            WheelYard x = Yards.withBare(n, 100);
            for (int place : Checks.outside(0, 2 * n + n / 2)) {
                c.refused(x, "15: at(0, " + place + ") of " + n, x.at(0, place), 2);
            }
            c.refused(x, "15: the first place of " + n, x.at(0, 0), 5);
            c.refused(x, "15: the last place of " + n, x.at(0, 2 * n + n / 2), 5);
        }
    }

    /** 15: "The PIECE at a place", at each; 5 where there is none. */
    private static void atEachPlace() {
        for (int n : SPOKES) {
            WheelYard x = Yards.withBare(n, 100);
            Yards.frame(x, 0, 28);
            Yards.strakes(x, 0);
            for (int place = 0; place <= 2 * n + n / 2; place++) {
                c.agreed(x, "15: at(0, " + place + ") of " + n, x.at(0, place), place);
                x.out(0, place);
                c.refused(x, "15: nothing at " + place, x.at(0, place), 5);
            }
            WheelYard y = Yards.withBare(n, 100);
            Yards.frame(y, 0, 28);
            y.tyre(0, y.piece(4, 0, 0, 610), 50);
            c.agreed(y, "15: a TYRE has one place", y.at(0, 2 * n + 1), 2 * n + 1);
            for (int place = 2 * n + 2; place <= 2 * n + n / 2; place++) {
                c.refused(y, "15: and is not at " + place, y.at(0, place), 5);
            }
        }
    }

    /** 15: 1 ahead of 2. */
    private static void atAsksInOrder() {
        WheelYard x = Yards.withBareWheel();
        for (int w : Checks.outside(0, 0)) {
            for (int place : Checks.outside(0, 20)) {
                c.refused(x, "15: at(" + w + ", " + place + ")", x.at(w, place), 1);
            }
        }
    }

    /** 22: "also NONE: 1". */
    private static void missingWhichWheel() {
        WheelYard x = Yards.withTyre();
        for (int w : Checks.outside(0, 0)) {
            c.refused(x, "22: missing(" + w + ")", x.missing(w), 1);
        }
        c.agreed(x, "22: NONE of a WHEEL that is TRUE is no refusal", x.missing(0), NONE);
    }

    /** 22: "The first place of 0 to n + 2 m that has nothing". */
    private static void missingEachPlace() {
        for (int n : SPOKES) {
            WheelYard x = Yards.withBare(n, 100);
            c.agreed(x, "22: nothing at all", x.missing(0), 0);
            Yards.strakes(x, 0);
            c.agreed(x, "22: STRAKES alone", x.missing(0), 0);
            Yards.frame(x, 0, 28);
            for (int place = 2 * n; place >= 0; place--) {
                int gone = x.out(0, place);
                c.agreed(x, "22: without what is at " + place, x.missing(0), place);
                int last = place == 2 * n ? NONE : x.out(0, 2 * n);
                c.agreed(x, "22: the first of two", x.missing(0), place);
                x.put(0, place, gone);
                x.put(0, 2 * n, last == NONE ? gone : last);
            }
        }
    }

    /** 22: "n + 2 m + 1 if these all have, but the WHEEL is not TRUE; NONE if it is TRUE". */
    private static void missingRim() {
        for (int n : SPOKES) {
            WheelYard x = Yards.withBare(n, 100);
            Yards.frame(x, 0, 28);
            c.agreed(x, "22: a bare rim of " + n, x.missing(0), 2 * n + 1);
            Yards.strakes(x, 0);
            c.agreed(x, "22: all STRAKES of " + n, x.missing(0), NONE);
            for (int place = 2 * n + 1; place <= 2 * n + n / 2; place++) {
                int gone = x.out(0, place);
                c.agreed(x, "22: without the STRAKE at " + place, x.missing(0), 2 * n + 1);
                x.put(0, place, gone);
            }
            WheelYard y = Yards.withBare(n, 100);
            Yards.frame(y, 0, 28);
            y.tyre(0, y.piece(4, 0, 0, 610), 50);
            c.agreed(y, "22: a TYRE on " + n, y.missing(0), NONE);
        }
    }
}
