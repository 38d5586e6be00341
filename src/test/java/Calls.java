/** The calls of the document's face by numbers, in its order; a boolean counts 1 or 0. */
final class Calls {
    static final String[] NAMES = {"why", "dampRow", "damp", "dampAt", "strength", "heatRow", "heated", "years",
        "measure", "piece", "about", "wheel", "told", "at", "put", "out", "space", "gap", "tyre", "off", "missing",
        "bears", "carries", "weakest", "turn", "alike", "plan", "planned", "fill", "keep", "undo", "count"};
    private static final int[] PARAMETERS = {0, 3, 3, 2, 2, 2, 2, 1, 2, 4, 2, 4, 2, 2, 3, 2, 1, 2, 3, 0, 1,
        1, 1, 1, 2, 3, 1, 1, 1, 0, 0, 1};

    static final int MOST = 512;

    static int numbered(String name) {
        for (int call = 0; call < NAMES.length; call++) {
            if (NAMES[call].equals(name)) {
                return call;
            }
        }
        throw new IllegalArgumentException(name);
    }

    static String inWords(int call, int... given) {
        StringBuilder words = new StringBuilder(NAMES[call]).append('(');
        for (int i = 0; i < PARAMETERS[call]; i++) {
            words.append(i == 0 ? "" : ", ").append(given[i]);
        }
        return words.append(')').toString();
    }

    static int ask(WheelYard x, int call, int a, int b, int c, int d) {
        switch (call) {
            case 0: return x.why();
            case 1: return x.dampRow(a, b, c) ? 1 : 0;
            case 2: return x.damp(a, b, c) ? 1 : 0;
            case 3: return x.dampAt(a, b);
            case 4: return x.strength(a, b) ? 1 : 0;
            case 5: return x.heatRow(a, b) ? 1 : 0;
            case 6: return x.heated(a, b);
            case 7: return x.years(a);
            case 8: return x.measure(a, b);
            case 9: return x.piece(a, b, c, d);
            case 10: return x.about(a, b);
            case 11: return x.wheel(a, b, c, d);
            case 12: return x.told(a, b);
            case 13: return x.at(a, b);
            case 14: return x.put(a, b, c) ? 1 : 0;
            case 15: return x.out(a, b);
            default: return askRest(x, call, a, b, c);
        }
    }

    private static int askRest(WheelYard x, int call, int a, int b, int c) {
        switch (call) {
            case 16: return x.space(a);
            case 17: return x.gap(a, b);
            case 18: return x.tyre(a, b, c) ? 1 : 0;
            case 19: return x.off();
            case 20: return x.missing(a);
            case 21: return x.bears(a);
            case 22: return x.carries(a);
            case 23: return x.weakest(a);
            case 24: return x.turn(a, b) ? 1 : 0;
            case 25: return x.alike(a, b, c);
            case 26: return x.plan(a);
            case 27: return x.planned(a);
            case 28: return x.fill(a);
            case 29: x.keep(); return 0;
            case 30: return x.undo() ? 1 : 0;
            default: return x.count(a);
        }
    }

    private Calls() {
    }
}
