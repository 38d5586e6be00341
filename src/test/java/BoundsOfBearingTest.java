/** Each sentence of promises 23 to 27, and of what Terms 2 says of BEARS and TURNS, that names a bound. */
public final class BoundsOfBearingTest {
    private static final int NONE = WheelYard.NONE;
    private static final int[] SPOKES = {8, 10, 12, 14, 16};
    private static final Checks c = new Checks();

    public static void main(String[] args) {
        bearsWhichPiece();
        bearsOfIron();
        bearsFromLeastToMost();
        bearsOfEachDamp();
        bearsOfUnknownDamp();
        bearsOfThisYear();
        bearsLessWear();
        bearsAtLeastNought();
        carriesWhichWheel();
        carriesOfTrueOnesAlone();
        carriesTheLeast();
        carriesNotWhatDowelsBear();
        carriesNought();
        weakestWhichWheel();
        weakestIsTheFirst();
        turnWhichWheel();
        turnOfTrueOnesAlone();
        turnHowOften();
        turnTellsTheFirstReason();
        turnWearsEachSort();
        turnWearsNothingElse();
        turnFarFromTheMostWear();
        turnUpToTheMostWear();
        alikeWhichWheels();
        alikeBelowNought();
        alikeTellsTheFirstReason();
        alikeTrueBoth();
        alikeShapes();
        alikeRims();
        alikeEachGap();
        alikeByTyres();
        c.end();
    }

    /** 23: 3. */
    private static void bearsWhichPiece() {
        int[] counts = {0, 1, 200};
        for (int count : counts) {
            WheelYard x = new WheelYard();
            x.dampRow(0, 1, 0);
            Yards.pieces(x, count, 1, 0, 5);
            for (int p : Checks.outside(0, count - 1)) {
                c.refused(x, "23: bears(" + p + ") of " + count, x.bears(p), 3);
            }
            if (count > 0) {
                c.agreed(x, "23: bears(0)", x.bears(0), 240000);
                c.agreed(x, "23: bears(" + (count - 1) + ")", x.bears(count - 1), 240000);
            }
        }
    }

    /** 23: "7 (a TYRE, a STRAKE)", FREE or not. */
    private static void bearsOfIron() {
        WheelYard x = Yards.withTyre();
        c.refused(x, "23: a TYRE that is on", x.bears(17), 7);
        x.out(0, 17);
        c.refused(x, "23: a FREE TYRE", x.bears(17), 7);
        WheelYard y = Yards.withStrakes();
        c.refused(y, "23: a STRAKE that is on", y.bears(20), 7);
        y.out(0, 20);
        c.refused(y, "23: a FREE STRAKE", y.bears(20), 7);
        for (int sort = 0; sort <= 3; sort++) {
            c.agreed(y, "23: SORT " + sort, y.bears(y.piece(sort, 0, 0, 1)), 220000);
        }
    }

    /** Terms 2: "STRENGTH times (20 - SLOPE) times (120 - DAMP)", at the ends of each. */
    private static void bearsFromLeastToMost() {
        int[] strengths = {1, 1000};
        int[] slopes = {0, 9};
        int[] damps = {0, 100};
        for (int strength : strengths) {
            for (int slope : slopes) {
                for (int damp : damps) {
                    WheelYard x = new WheelYard();
                    x.dampRow(3, 1, damp);
                    x.strength(3, strength);
                    int due = strength * (slope == 0 ? 20 : 11) * (damp == 0 ? 120 : 20);
                    c.agreed(x, "23: " + strength + ", " + slope + ", " + damp, x.bears(x.piece(3, 3, slope, 1)), due);
                }
            }
        }
    }

    private static void bearsOfEachDamp() {
        WheelYard x = new WheelYard();
        x.dampRow(0, 1, 0);
        x.piece(0, 0, 3, 1);
        for (int damp = 0; damp <= 100; damp++) {
            x.damp(0, 0, damp);
            c.agreed(x, "23: DAMP " + damp, x.bears(0), 1700 * (120 - damp));
        }
    }

    /** Terms 2: "(120, if it is not known)". */
    private static void bearsOfUnknownDamp() {
        WheelYard x = new WheelYard();
        x.strength(0, 1000);
        x.piece(0, 0, 0, 1);
        c.agreed(x, "23: MISSING", x.bears(0), 0);
        x.dampRow(0, 0, 0);
        c.agreed(x, "23: a ROW of 0 numbers", x.bears(0), 0);
        x.dampRow(0, 1, 0);
        c.agreed(x, "23: known", x.bears(0), 2400000);
        x.years(1);
        c.agreed(x, "23: no number for year 1", x.bears(0), 0);
        x.dampRow(0, 60, 100);
        x.years(58);
        c.agreed(x, "23: known, 59 years old", x.bears(0), 400000);
        x.years(1);
        c.agreed(x, "23: no number for year 60", x.bears(0), 0);
        x.dampRow(0, NONE, 0);
        c.agreed(x, "23: MISSING again", x.bears(0), 0);
    }

    /** Terms 2: "DAMP being that of this YEAR". */
    private static void bearsOfThisYear() {
        WheelYard x = new WheelYard();
        x.dampRow(0, 60, 0);
        for (int years = 0; years < 60; years++) {
            x.damp(0, years, years);
        }
        x.years(7);
        x.piece(0, 0, 0, 1);
        for (int age = 0; age < 60; age++) {
            c.agreed(x, "23: " + age + " years old", x.bears(0), 2000 * (120 - age));
            x.years(1);
        }
        c.agreed(x, "23: 60 years old", x.bears(0), 0);
    }

    /** Terms 2: "less WEAR / 10 (whole part)". */
    private static void bearsLessWear() {
        WheelYard x = Yards.withTyre();
        for (int turns = 1; turns <= 41; turns++) {
            x.turn(0, 1);
            c.agreed(x, "23: a NAVE after " + turns, x.bears(0), 220000 - turns / 10);
            c.agreed(x, "23: a SPOKE after " + turns, x.bears(1), 220000 - 2 * turns / 10);
            c.agreed(x, "23: a FELLOE after " + turns, x.bears(9), 220000 - 3 * turns / 10);
            c.agreed(x, "23: a DOWEL after " + turns, x.bears(13), 220000 - turns / 10);
        }
    }

    /** Terms 2: "at least 0". */
    private static void bearsAtLeastNought() {
        WheelYard x = Yards.withTyre();
        x.strength(0, 1);
        x.turn(0, 10990);
        c.agreed(x, "23: a SPOKE of WEAR 21980", x.bears(1), 2);
        x.turn(0, 5);
        c.agreed(x, "23: a SPOKE of WEAR 21990", x.bears(1), 1);
        x.turn(0, 4);
        c.agreed(x, "23: a SPOKE of WEAR 21998", x.bears(1), 1);
        x.turn(0, 1);
        c.agreed(x, "23: a SPOKE of WEAR 22000", x.bears(1), 0);
        x.turn(0, 5);
        c.agreed(x, "23: a SPOKE of WEAR 22010", x.bears(1), 0);
        x.turn(0, 100000);
        c.agreed(x, "23: a SPOKE of WEAR 222010", x.bears(1), 0);
        x.dampRow(0, NONE, 0);
        c.agreed(x, "23: WEAR, and no DAMP known", x.bears(1), 0);
    }

    /** 24: 1. */
    private static void carriesWhichWheel() {
        WheelYard x = Yards.withTyre();
        for (int w : Checks.outside(0, 0)) {
            c.refused(x, "24: carries(" + w + ")", x.carries(w), 1);
        }
        WheelYard bare = new WheelYard();
        c.refused(bare, "24: no WHEELS at all", bare.carries(0), 1);
    }

    /** 24 and 25: 16, whatever is not there. */
    private static void carriesOfTrueOnesAlone() {
        WheelYard x = Yards.withStrakes();
        for (int place = 0; place <= 20; place++) {
            int gone = x.out(0, place);
            c.refused(x, "24: nothing at " + place, x.carries(0), 16);
            c.refused(x, "25: nothing at " + place, x.weakest(0), 16);
            x.put(0, place, gone);
            c.agreed(x, "24: all is there", x.carries(0), 220000);
            c.agreed(x, "25: all is there", x.weakest(0), 0);
        }
        WheelYard y = Yards.withTyre();
        y.out(0, 17);
        c.refused(y, "24: no TYRE", y.carries(0), 16);
        c.refused(y, "25: no TYRE", y.weakest(0), 16);
        WheelYard bare = Yards.withBareWheel();
        c.refused(bare, "24: nothing at all", bare.carries(0), 16);
        c.refused(bare, "25: nothing at all", bare.weakest(0), 16);
    }

    /** A PIECE that BEARS less comes to a place in the stead of what is there. */
    private static void weaken(WheelYard x, int place) {
        int strong = x.out(0, place);
        x.put(0, place, x.piece(x.about(strong, 0), 0, 9, x.about(strong, 4)));
    }

    /** Terms 2: "BEARS the least of its NAVE's, SPOKES' and FELLOES'", wherever that is. */
    private static void carriesTheLeast() {
        for (int n : SPOKES) {
            for (int place = 0; place <= n + n / 2; place++) {
                WheelYard x = Yards.withBare(n, 100);
                Yards.frame(x, 0, 28);
                Yards.strakes(x, 0);
                c.agreed(x, "24: all alike", x.carries(0), 220000);
                weaken(x, place);
                c.agreed(x, "24: the weak one at " + place + " of " + n, x.carries(0), 121000);
                c.agreed(x, "25: the weak one at " + place + " of " + n, x.weakest(0), place);
            }
        }
    }

    /** Terms 2 name no DOWELS there. */
    private static void carriesNotWhatDowelsBear() {
        for (int n : SPOKES) {
            WheelYard x = Yards.withBare(n, 100);
            Yards.frame(x, 0, 28);
            Yards.strakes(x, 0);
            for (int place = n + n / 2 + 1; place <= 2 * n; place++) {
                weaken(x, place);
            }
            c.agreed(x, "24: all DOWELS of " + n + " are weak", x.carries(0), 220000);
            c.agreed(x, "25: all DOWELS of " + n + " are weak", x.weakest(0), 0);
        }
    }

    /** 24: a WHEEL that is TRUE may BEAR 0, which is no refusal. */
    private static void carriesNought() {
        WheelYard x = Yards.withTyre();
        x.dampRow(0, NONE, 0);
        c.agreed(x, "24: no DAMP is known", x.carries(0), 0);
        c.agreed(x, "25: no DAMP is known", x.weakest(0), 0);
    }

    /** 25: 1. */
    private static void weakestWhichWheel() {
        WheelYard x = Yards.withTyre();
        for (int w : Checks.outside(0, 0)) {
            c.refused(x, "25: weakest(" + w + ")", x.weakest(w), 1);
        }
        WheelYard bare = new WheelYard();
        c.refused(bare, "25: no WHEELS at all", bare.weakest(0), 1);
    }

    /** 25: "The first place whose PIECE BEARS just that". */
    private static void weakestIsTheFirst() {
        WheelYard x = Yards.withStrakes();
        for (int place = 12; place >= 0; place--) {
            weaken(x, place);
            c.agreed(x, "25: the weak ones from " + place + " on", x.weakest(0), place);
            c.agreed(x, "24: the weak ones from " + place + " on", x.carries(0), 121000);
        }
    }

    /** 26: 1. */
    private static void turnWhichWheel() {
        WheelYard x = Yards.withTyre();
        for (int w : Checks.outside(0, 0)) {
            c.refused(x, "26: turn(" + w + ", 1)", x.turn(w, 1), 1);
            c.refused(x, "26: turn(" + w + ", 0)", x.turn(w, 0), 1);
        }
        c.due("26: no WEAR", x.about(17, 5), 0);
        WheelYard bare = new WheelYard();
        c.refused(bare, "26: no WHEELS at all", bare.turn(0, 1), 1);
    }

    /** 26: 16, whatever is not there; also for 0 TURNS. */
    private static void turnOfTrueOnesAlone() {
        WheelYard x = Yards.withStrakes();
        for (int place = 0; place <= 20; place++) {
            int gone = x.out(0, place);
            c.refused(x, "26: nothing at " + place, x.turn(0, 1), 16);
            c.refused(x, "26: nothing at " + place + ", 0 TURNS", x.turn(0, 0), 16);
            x.put(0, place, gone);
        }
        for (int p = 0; p <= 20; p++) {
            c.due("26: no WEAR of " + p, x.about(p, 5), 0);
        }
    }

    /** 26: "k TURNS (0 to 100000)". */
    private static void turnHowOften() {
        WheelYard x = Yards.withTyre();
        int[] turns = {0, 1, 99999, 100000, 0};
        int[] due = {0, 1, 100000, 200000, 200000};
        for (int i = 0; i < turns.length; i++) {
            c.agreed(x, "26: turn(0, " + turns[i] + ")", x.turn(0, turns[i]));
            c.due("26: WEAR of the NAVE", x.about(0, 5), due[i]);
        }
        for (int k : Checks.outside(0, 100000)) {
            c.refused(x, "26: turn(0, " + k + ")", x.turn(0, k), 17);
            c.due("26: WEAR of the NAVE as it was", x.about(0, 5), 200000);
            c.due("26: WEAR of the TYRE as it was", x.about(17, 5), 800000);
        }
    }

    /** Terms 3: 1 ahead of 16 and 17, 16 ahead of 17. */
    private static void turnTellsTheFirstReason() {
        WheelYard x = Yards.withBareWheel();
        for (int k : Checks.outside(0, 100000)) {
            c.refused(x, "26: 1 and 17", x.turn(1, k), 1);
            c.refused(x, "26: 16 and 17", x.turn(0, k), 16);
        }
    }

    /** Terms 2: "NAVE is 1 more, of each SPOKE 2, of each FELLOE 3, of DOWELS 1, of its TYRE or STRAKES 4". */
    private static void turnWearsEachSort() {
        int[] each = {1, 2, 1, 3, 4, 4};
        for (int n : SPOKES) {
            WheelYard x = Yards.withBare(n, 100);
            Yards.frame(x, 0, 28);
            Yards.strakes(x, 0);
            x.turn(0, 7);
            for (int p = 0; p <= 2 * n + n / 2; p++) {
                c.due("26: WEAR of " + p + " of " + n, x.about(p, 5), 7 * each[x.about(p, 0)]);
            }
            WheelYard y = Yards.withBare(n, 100);
            Yards.frame(y, 0, 28);
            y.tyre(0, y.piece(4, 0, 0, 610), 50);
            y.turn(0, 3);
            for (int p = 0; p <= 2 * n + 1; p++) {
                c.due("26: WEAR of " + p + " of " + n, y.about(p, 5), 3 * each[y.about(p, 0)]);
            }
        }
    }

    /** Terms 2: of its own PIECES. */
    private static void turnWearsNothingElse() {
        WheelYard x = Yards.withTyre();
        x.wheel(8, 100, 10, 101);
        Yards.frame(x, 1, 28);
        x.tyre(1, x.piece(4, 0, 0, 610), 50);
        x.piece(0, 0, 0, 8);
        x.turn(0, 5);
        for (int p = 18; p <= 36; p++) {
            c.due("26: WEAR of " + p, x.about(p, 5), 0);
        }
        x.turn(1, 9);
        c.due("26: WEAR of the first NAVE", x.about(0, 5), 5);
        c.due("26: WEAR of the second NAVE", x.about(18, 5), 9);
    }

    /** 26: "a WEAR would be above 2000000000": as many TURNS as 512 calls can make are far from that. */
    private static void turnFarFromTheMostWear() {
        WheelYard x = Yards.withTyre();
        for (int i = 1; i <= 440; i++) {
            c.yes("26: turn(0, 100000), time " + i, x.turn(0, 100000));
        }
        c.due("26: WEAR of the TYRE", x.about(17, 5), 176000000);
        c.due("26: WEAR of a FELLOE", x.about(12, 5), 132000000);
    }

    /**
     * 26: "a WEAR would be above 2000000000". No 512 calls come so far, and what later calls answer is free: this
     * looks at what this program answers then, PIECES of each SORT coming to the bound, the most worn ones first.
     */
    private static void turnUpToTheMostWear() {
        int[] each = {4, 3, 2, 1, 1};
        int[] from = {17, 9, 1, 0, 13};
        int[] to = {17, 12, 8, 0, 16};
        for (int sort = 0; sort < each.length; sort++) {
            WheelYard x = Yards.withTyre();
            for (int wear = 0; wear < 2000000000 / each[sort] / 100000; wear++) {
                x.turn(0, 100000);
                if (wear % 4999 == 4998) {
                    anewButFor(x, from[sort], to[sort]);
                }
            }
            int left = 2000000000 / each[sort] % 100000;
            c.refused(x, "26: one too many, each " + each[sort], x.turn(0, left + 1), 17);
            c.refused(x, "26: as many as may be, each " + each[sort], x.turn(0, 100000), 17);
            c.due("26: WEAR is as it was", x.about(x.at(0, from[sort]), 5), 2000000000 - left * each[sort] - 2000000000 % each[sort]);
            c.agreed(x, "26: just enough, each " + each[sort], x.turn(0, left));
            c.refused(x, "26: 1 more, each " + each[sort], x.turn(0, 1), 17);
            c.agreed(x, "26: 0 more, each " + each[sort], x.turn(0, 0));
            c.due("26: the most WEAR", x.about(x.at(0, to[sort]), 5), 2000000000 - 2000000000 % each[sort]);
        }
    }

    /** New PIECES come to all places but those told, so that these alone go on wearing. */
    private static void anewButFor(WheelYard x, int from, int to) {
        int tyre = x.at(0, 17);
        for (int place = 0; place <= 16; place++) {
            if (place < from || place > to) {
                x.out(0, place);
                x.put(0, place, Yards.pieceFor(x, place));
            }
        }
        x.tyre(0, from == 17 ? tyre : x.piece(4, 0, 0, 610), 50);
    }

    private static WheelYard twoStraked(int space, int otherSpace) {
        WheelYard x = Yards.withBare(8, 100);
        x.wheel(8, 100, 1, 1);
        Yards.frame(x, 0, space);
        Yards.strakes(x, 0);
        Yards.frame(x, 1, otherSpace);
        Yards.strakes(x, 1);
        return x;
    }

    /** 27: "1 (of either)". */
    private static void alikeWhichWheels() {
        WheelYard x = twoStraked(28, 28);
        for (int w : Checks.outside(0, 1)) {
            c.refused(x, "27: alike(" + w + ", 0, 0)", x.alike(w, 0, 0), 1);
            c.refused(x, "27: alike(0, " + w + ", 0)", x.alike(0, w, 0), 1);
            c.refused(x, "27: alike(" + w + ", " + w + ", 0)", x.alike(w, w, 0), 1);
        }
        c.agreed(x, "27: alike(0, 1, 0)", x.alike(0, 1, 0), 1);
        c.agreed(x, "27: alike(1, 0, 0)", x.alike(1, 0, 0), 1);
        c.agreed(x, "27: alike(1, 1, 0)", x.alike(1, 1, 0), 1);
    }

    /** 27: "17 (t below 0)". */
    private static void alikeBelowNought() {
        WheelYard x = twoStraked(28, 28);
        int[] below = {-1, -2, Integer.MIN_VALUE, Integer.MIN_VALUE + 1};
        for (int t : below) {
            c.refused(x, "27: alike(0, 1, " + t + ")", x.alike(0, 1, t), 17);
        }
        int[] others = {0, 1, 30001, Integer.MAX_VALUE - 1, Integer.MAX_VALUE};
        for (int t : others) {
            c.agreed(x, "27: alike(0, 1, " + t + ")", x.alike(0, 1, t), 1);
        }
        x.out(0, 0);
        c.refused(x, "27: not TRUE, t below 0", x.alike(0, 1, -1), 17);
        c.agreed(x, "27: not TRUE, t 0", x.alike(0, 1, 0), 0);
    }

    /** Terms 3: 1 ahead of 17. */
    private static void alikeTellsTheFirstReason() {
        WheelYard x = twoStraked(28, 28);
        for (int w : Checks.outside(0, 1)) {
            c.refused(x, "27: 1 and 17", x.alike(w, 0, -1), 1);
            c.refused(x, "27: 1 and 17", x.alike(0, w, Integer.MIN_VALUE), 1);
        }
    }

    /** 27: "both TRUE". */
    private static void alikeTrueBoth() {
        WheelYard x = twoStraked(28, 28);
        for (int place = 0; place <= 20; place++) {
            int gone = x.out(1, place);
            c.agreed(x, "27: the second without " + place, x.alike(0, 1, Integer.MAX_VALUE), 0);
            c.agreed(x, "27: the first without " + place, x.alike(1, 0, Integer.MAX_VALUE), 0);
            c.agreed(x, "27: both without " + place, x.alike(1, 1, Integer.MAX_VALUE), 0);
            x.put(1, place, gone);
        }
        c.agreed(x, "27: both are TRUE again", x.alike(0, 1, 0), 1);
    }

    /** 27: "n, r, STAND .. the same": STAND, not what it was made of. */
    private static void alikeShapes() {
        int[][] shapes = {{8, 100, 50, 102, 1}, {8, 100, 51, 102, 1}, {8, 100, 25, 101, 1}, {8, 100, 52, 102, 0},
            {8, 100, 49, 102, 0}, {8, 101, 50, 102, 0}, {8, 99, 50, 102, 0}, {10, 100, 50, 102, 0}, {16, 100, 50, 102, 0}};
        for (int[] shape : shapes) {
            WheelYard x = Yards.withBare(8, 30);
            int one = x.wheel(8, 100, 50, 102);
            int other = x.wheel(shape[0], shape[1], shape[2], shape[3]);
            Yards.frame(x, one, 28);
            Yards.strakes(x, one);
            Yards.frame(x, other, 28);
            Yards.strakes(x, other);
            c.due("27: both are TRUE", x.count(4), 2);
            String words = "27: n " + shape[0] + ", r " + shape[1] + ", h " + shape[2] + ", DISH " + shape[3];
            c.agreed(x, words, x.alike(one, other, Integer.MAX_VALUE), shape[4]);
            c.agreed(x, words + ", turned round", x.alike(other, one, Integer.MAX_VALUE), shape[4]);
        }
    }

    /** 27: "sort of tyre the same". */
    private static void alikeRims() {
        WheelYard x = Yards.withBare(8, 100);
        x.wheel(8, 100, 1, 1);
        Yards.frame(x, 0, 28);
        Yards.frame(x, 1, 28);
        c.agreed(x, "27: both bare", x.alike(0, 1, Integer.MAX_VALUE), 0);
        x.tyre(0, x.piece(4, 0, 0, 628), 99);
        Yards.strakes(x, 1);
        c.due("27: both are TRUE", x.count(4), 2);
        c.agreed(x, "27: a TYRE and STRAKES", x.alike(0, 1, Integer.MAX_VALUE), 0);
        c.agreed(x, "27: STRAKES and a TYRE", x.alike(1, 0, Integer.MAX_VALUE), 0);
        for (int place = 17; place <= 20; place++) {
            x.out(1, place);
        }
        x.tyre(1, x.piece(4, 0, 0, 628), 99);
        c.agreed(x, "27: a TYRE each", x.alike(0, 1, 0), 1);
    }

    /** 27: "no GAP of one is off by more than t from the other's of that number". */
    private static void alikeEachGap() {
        for (int more = 0; more <= 8; more++) {
            WheelYard x = twoStraked(28, 28 + more);
            int most = (more + 3) / 4;
            c.agreed(x, "27: " + more + " more, t " + most, x.alike(0, 1, most), 1);
            c.agreed(x, "27: turned round", x.alike(1, 0, most), 1);
            if (most > 0) {
                c.agreed(x, "27: " + more + " more, t " + (most - 1), x.alike(0, 1, most - 1), 0);
                c.agreed(x, "27: turned round", x.alike(1, 0, most - 1), 0);
            }
        }
        // From 31 to 32 the last GAP alone is wider, from 32 to 33 the first one alone.
        WheelYard last = twoStraked(31, 32);
        c.agreed(last, "27: the last GAP, t 0", last.alike(0, 1, 0), 0);
        c.agreed(last, "27: the last GAP, t 1", last.alike(0, 1, 1), 1);
        WheelYard wide = twoStraked(0, 600);
        c.agreed(wide, "27: 150 apart, t 149", wide.alike(0, 1, 149), 0);
        c.agreed(wide, "27: 150 apart, t 150", wide.alike(0, 1, 150), 1);
    }

    /** 27 asks for the GAPS that are left: the DRAWS may make like what was not, and unlike what was. */
    private static void alikeByTyres() {
        WheelYard x = Yards.withBare(8, 100);
        x.wheel(8, 100, 1, 1);
        Yards.frame(x, 0, 28);
        Yards.frame(x, 1, 32);
        x.tyre(0, x.piece(4, 0, 0, 620), 99);
        int like = x.piece(4, 0, 0, 616);
        int unlike = x.piece(4, 0, 0, 615);
        x.tyre(1, like, 99);
        c.agreed(x, "27: GAPS of 5 each", x.alike(0, 1, 0), 1);
        x.out(1, 17);
        x.tyre(1, unlike, 99);
        c.agreed(x, "27: the first GAP is 4, t 0", x.alike(0, 1, 0), 0);
        c.agreed(x, "27: the first GAP is 4, t 1", x.alike(0, 1, 1), 1);
    }
}
