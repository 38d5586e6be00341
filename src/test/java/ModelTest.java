/** Runs of 512 calls, drawn by a fixed rule, on WheelYard and on Model: each answer of both must be the same. */
public final class ModelTest {
    private static final int[] ODD = {-1, -2, 0, 1, 41, 200, Integer.MAX_VALUE, Integer.MIN_VALUE, 100000, -101, 30001};
    private static final int RUNS = 3000;
    private static final int CALLS = Calls.MOST;

    private static final Checks c = new Checks();
    private static final int[] agreed = new int[Calls.NAMES.length];
    private static final int[] reasons = new int[18];
    private static long drawn;

    private static WheelYard yard;
    private static Model model;
    private static int run;
    private static int calls;

    public static void main(String[] args) {
        for (run = 0; run < RUNS; run++) {
            drawn = 88172645463325252L + run;
            yard = new WheelYard();
            model = new Model();
            calls = 0;
            oneRun(run % 3);
        }
        for (int call = 0; call < Calls.NAMES.length; call++) {
            c.yes("some " + Calls.NAMES[call] + "() was not refused", agreed[call] > RUNS / 10);
        }
        for (int reason = 0; reason <= 17; reason++) {
            c.yes("REASON " + reason + " was told", reasons[reason] > RUNS / 50);
        }
        c.end();
    }

    private static void oneRun(int way) {
        ask(1, 0, 60, 10, 0);
        ask(1, 1, 5 + draw(50), 25, 0);
        ask(2, 1, draw(5), draw(21), 0);
        ask(5, 150 + draw(51), 100, 0, 0);
        ask(11, 8, 30 + draw(3), 1 + draw(40), 101 + 100 * draw(2));
        ask(11, 8 + 2 * draw(5), 100, 10, 101);
        if (way > 0) {
            stockFor(0);
            ask(28, 0, 0, 0, 0);
        }
        if (way > 1) {
            rimFor(0);
        }
        while (calls < CALLS) {
            int kind = draw(120);
            if (kind == 0) {
                stockFor(draw(2));
            } else if (kind < 6) {
                rimFor(draw(2));
            } else if (kind < 14) {
                ask(26 + 2 * draw(2), draw(2), 0, 0, 0);
            } else if (kind < 50) {
                swapOne(draw(2));
            } else {
                anyCall();
            }
        }
    }

    /** PIECES with which a WHEEL may be whole, most of them of a WOOD that is DRY. */
    private static void stockFor(int w) {
        int n = ask(12, w, 0, 0, 0);
        int tall = ask(12, w, 3, 0, 0);
        int round = ask(12, w, 4, 0, 0);
        if (n < 8) {
            return;
        }
        int late = draw(3) == 0 ? 1 : 0;
        ask(9, 0, draw(4) == 0 ? late : 0, draw(10), n);
        for (int i = 0; i < n; i++) {
            ask(9, 1, draw(4) == 0 ? late : 0, draw(3), tall);
        }
        for (int i = 0; i <= n / 2; i++) {
            ask(9, 3, draw(4) == 0 ? late : 0, draw(3), Math.max(1, round / (n / 2) - draw(4)));
            ask(9, 2, draw(4) == 0 ? late : 0, draw(3), 1 + draw(9));
        }
    }

    private static void rimFor(int w) {
        int n = ask(12, w, 0, 0, 0);
        int round = ask(12, w, 4, 0, 0);
        if (n < 8) {
            return;
        }
        if (draw(2) == 0) {
            int tyre = ask(9, 4, 0, 0, round + 1 - draw(16));
            ask(18, w, tyre, draw(201), 0);
            ask(18, w, tyre, 60 + draw(100), 0);
            ask(18, w, tyre, 149, 0);
            return;
        }
        for (int place = 2 * n + 1; place <= 2 * n + n / 2; place++) {
            ask(14, w, place, ask(9, 5, 0, 0, 1), 0);
        }
    }

    /** Something of the right SORT comes to a place that is made empty for it, if it was not. */
    private static void swapOne(int w) {
        int place = draw(1 + Math.max(0, ask(12, w, 8, 0, 0)));
        int old = ask(13, w, place, 0, 0);
        if (old >= 0 && draw(3) == 0) {
            ask(15, w, place, 0, 0);
        }
        int from = draw(200);
        for (int i = 0; i < 200; i++) {
            int p = (from + i) % 200;
            if (p != old && model.couldGo(w, place, p)) {
                ask(14, w, place, p, 0);
                return;
            }
        }
        if (old >= 0) {
            ask(14, w, place, old, 0);
        }
    }

    private static void anyCall() {
        int call = draw(Calls.NAMES.length);
        int a = wheelOrOdd();
        int piece = draw(12) == 0 ? odd() : draw(Math.max(1, model.ask(31, 1, 0, 0, 0)));
        int place = draw(12) == 0 ? odd() : draw(42);
        switch (call) {
            case 1: ask(1, 1 + small(4), small(61), small(30), 0); break;
            case 2: ask(2, small(4), small(20), small(60), 0); break;
            case 3: ask(3, small(4), small(61), 0, 0); break;
            case 4: ask(4, small(4), draw(5) == 0 ? odd() : 1 + draw(40), 0, 0); break;
            case 5: ask(5, draw(4) == 0 ? draw(3) == 0 ? -1 : small(201) : 200, draw(4) == 0 ? small(101) : 100, 0, 0); break;
            case 6: ask(6, small(30001), small(201), 0, 0); break;
            case 7: ask(7, draw(4) == 0 ? odd() : draw(2), 0, 0, 0); break;
            case 8: ask(8, draw(3) == 0 ? odd() : draw(90000), draw(3) == 0 ? odd() : draw(900), 0, 0); break;
            case 9: ask(9, small(6), small(2), small(10), draw(2) == 0 ? 8 : small(130)); break;
            case 10: ask(10, piece, small(9), 0, 0); break;
            case 11: ask(11, small(18), 30 + small(200), small(300), small(600)); break;
            case 12: ask(12, a, small(9), 0, 0); break;
            case 13: case 15: oneIn(call, a, place); break;
            case 14: ask(14, a, place, piece, 0); break;
            case 17: ask(17, a, small(8), 0, 0); break;
            case 18: ask(18, a, piece, small(200), 0); break;
            case 21: ask(21, piece, 0, 0, 0); break;
            case 24: ask(24, a, draw(4) == 0 ? odd() : draw(100001), 0, 0); break;
            case 25: ask(25, a, wheelOrOdd(), small(4), 0); break;
            case 27: ask(27, place, 0, 0, 0); break;
            case 29: if (draw(4) == 0) { ask(29, 0, 0, 0, 0); } break;
            case 30: if (draw(3) == 0) { ask(30, 0, 0, 0, 0); } break;
            case 31: ask(31, small(6), 0, 0, 0); break;
            default: ask(call, a, 0, 0, 0); break;
        }
    }

    /** out() is rarer than at(), so that WHEELS get whole. */
    private static void oneIn(int call, int w, int place) {
        ask(13, w, place, 0, 0);
        if (call == 15 && draw(2) == 0) {
            int gone = ask(15, w, place, 0, 0);
            if (gone >= 0 && draw(2) == 0) {
                ask(14, w, place, gone, 0);
            }
        }
    }

    private static int ask(int call, int a, int b, int e, int d) {
        if (calls >= CALLS - 1) {
            calls = CALLS;
            return -1;
        }
        calls += 2;
        int want = model.ask(call, a, b, e, d);
        int got = Calls.ask(yard, call, a, b, e, d);
        String words = "run " + run + ", call " + calls + ": " + Calls.inWords(call, a, b, e, d);
        c.due(words, got, want);
        int why = model.ask(0, 0, 0, 0, 0);
        c.due("why() after " + words, yard.why(), why);
        reasons[Math.max(0, Math.min(17, why))]++;
        agreed[call] += got >= (Model.tellsYesOrNo(call) ? 1 : 0) ? 1 : 0;
        return got;
    }

    private static int wheelOrOdd() {
        return draw(12) == 0 ? odd() : draw(2);
    }

    private static int small(int end) {
        return draw(12) == 0 ? odd() : draw(end);
    }

    private static int odd() {
        return ODD[draw(ODD.length)];
    }

    /** From 0 to below end, by a xorshift: the same numbers in each run of the test. */
    private static int draw(int end) {
        drawn ^= drawn << 13;
        drawn ^= drawn >>> 7;
        drawn ^= drawn << 17;
        return (int) Math.floorMod(drawn, (long) end);
    }

    private ModelTest() {
    }
}
