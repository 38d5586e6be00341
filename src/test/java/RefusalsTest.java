import java.util.ArrayList;
import java.util.Arrays;
import java.util.List;

/**
 * Terms 3: "What is refused changes nothing but the REASON". Each refused call below is made on a yard, and then all
 * that can be asked is asked of it and of its like on which that call was not made.
 */
public final class RefusalsTest {
    private static final int NONE = WheelYard.NONE;
    private static final int PARTS = 8;
    private static final int MIN = Integer.MIN_VALUE;
    private static final int MAX = Integer.MAX_VALUE;
    private static final Checks c = new Checks();

    private static List<int[]> script;
    private static boolean later;
    private static final List<int[]> due = new ArrayList<>();

    public static void main(String[] args) {
        on(Scripts.busy());
        theBusyYardIsAsTold();
        rowsAndHeat();
        piecesAndWheels();
        whatIsAsked();
        put();
        out();
        tyre();
        turnAndAlike();
        plans();
        on(Scripts.full());
        refused(17, "piece", 2, 0, 0, 1);
        refused(17, "piece", 4, 0, 0, 1);
        refused(17, "wheel", 8, 100, 10, 101);
        on(Scripts.waiting());
        later = true;
        refused(9, "fill", 0);
        refused(7, "tyre", 0, 17, 50);
        c.end();
    }

    private static void on(List<int[]> calls) {
        script = calls;
        due.clear();
        for (int part = 0; part < PARTS; part++) {
            due.add(look(Scripts.yard(script), part));
        }
    }

    /** Else the refusals below would be looked at where there is little that could change. */
    private static void theBusyYardIsAsTold() {
        WheelYard x = Scripts.yard(script);
        int[] counts = {1, Scripts.LAST + 1, 12, 3, 1, 5};
        for (int what = 0; what <= 5; what++) {
            c.due("the busy yard's count(" + what + ")", x.count(what), counts[what]);
        }
        c.due("its off()", x.off(), 27);
        c.due("its planned(16)", x.planned(16), 34);
        c.due("its WEAR", x.about(17, 5), 28);
        c.due("its missing(2)", x.missing(2), 17);
        c.due("its at(1, 20)", x.at(1, 20), 36);
        c.yes("its undo()", x.undo());
        c.due("its WEAR then", x.about(17, 5), 12);
        c.due("its at(1, 20) then", x.at(1, 20), NONE);
    }

    private static void rowsAndHeat() {
        int[][] rows = {{-1, 1, 5}, {4, 1, 5}, {MIN, 1, 5}, {MAX, 1, 5}, {0, -2, 5}, {0, 61, 5}, {0, MIN, 5}, {0, MAX, 5},
            {0, 1, -1}, {0, 1, 101}, {0, 1, MIN}, {0, 1, MAX}, {0, NONE, -1}, {0, NONE, 101}, {-1, NONE, 5}, {4, NONE, 5}};
        for (int[] row : rows) {
            refused(17, "dampRow", row);
        }
        int[][] numbers = {{-1, 0, 5}, {4, 0, 5}, {0, -1, 5}, {0, 60, 5}, {1, 3, 5}, {2, 0, 5}, {3, 0, 5}, {0, 0, -1},
            {0, 0, 101}, {0, MIN, 5}, {0, MAX, 5}, {0, 0, MIN}, {0, 0, MAX}, {MIN, 0, 5}, {MAX, 0, 5}};
        for (int[] number : numbers) {
            refused(17, "damp", number);
        }
        int[][] strengths = {{-1, 5}, {4, 5}, {0, 0}, {0, 1001}, {1, -1}, {1, MIN}, {1, MAX}, {MIN, 5}, {MAX, 5}};
        for (int[] strength : strengths) {
            refused(17, "strength", strength);
        }
        int[][] heats = {{-2, 5}, {201, 5}, {MIN, 5}, {MAX, 5}, {5, -1}, {5, 101}, {5, MIN}, {5, MAX}, {NONE, -1}, {NONE, 101}};
        for (int[] heat : heats) {
            refused(17, "heatRow", heat);
        }
        refused(17, "heated", -1, 0);
        refused(17, "heated", 30001, 500);
        refused(12, "heated", 5, 100);
        refused(12, "heated", 5, -1);
        int[] years = {-1, 101, MIN, MAX};
        for (int n : years) {
            refused(17, "years", n);
        }
    }

    private static void piecesAndWheels() {
        int[][] pieces = {{-1, 0, 0, 1}, {6, 0, 0, 1}, {MIN, 0, 0, 1}, {MAX, 0, 0, 1}, {0, -1, 0, 1}, {1, 4, 0, 1},
            {2, 0, -1, 1}, {3, 0, 10, 1}, {0, 0, 0, 0}, {4, 0, 0, 0}, {5, 0, 0, 30001}, {4, 0, 0, MIN}, {5, 0, 0, MAX}};
        for (int[] piece : pieces) {
            refused(17, "piece", piece);
        }
        int[][] wheels = {{7, 100, 10, 101}, {9, 100, 10, 101}, {18, 100, 10, 101}, {MIN, 100, 10, 101}, {MAX, 100, 10, 101},
            {8, 29, 10, 101}, {8, 4001, 10, 101}, {8, 100, 0, 101}, {8, 100, 2001, 101}, {8, 100, 10, 0}, {8, 100, 10, 201},
            {8, 100, 10, 10101}, {8, 100, 10, -1}, {8, MIN, 10, 101}, {8, 100, MAX, 101}, {8, 100, 10, MIN}, {8, 100, 10, MAX}};
        for (int[] wheel : wheels) {
            refused(17, "wheel", wheel);
        }
    }

    private static void whatIsAsked() {
        refused(3, "about", -1, 0);
        refused(3, "about", Scripts.LAST + 1, 9);
        refused(17, "about", 0, 9);
        refused(17, "about", 0, -1);
        refused(1, "told", 3, 0);
        refused(1, "told", -1, 99);
        refused(17, "told", 0, 9);
        refused(17, "told", 0, -1);
        refused(1, "at", 3, 0);
        refused(2, "at", 0, 21);
        refused(2, "at", 0, -1);
        refused(5, "at", 1, 0);
        refused(5, "at", 0, 18);
        refused(1, "space", 3);
        refused(10, "space", 1);
        refused(1, "gap", 3, 0);
        refused(10, "gap", 1, 0);
        refused(10, "gap", 1, 99);
        refused(17, "gap", 0, 4);
        refused(17, "gap", 0, -1);
        refused(1, "missing", 3);
        refused(3, "bears", Scripts.LAST + 1);
        refused(7, "bears", 17);
        refused(7, "bears", 46);
        refused(1, "carries", 3);
        refused(16, "carries", 2);
        refused(1, "weakest", -1);
        refused(16, "weakest", 1);
    }

    private static void put() {
        refused(1, "put", 3, 0, 37);
        refused(1, "put", -1, 0, 37);
        refused(2, "put", 1, 21, 37);
        refused(2, "put", 1, -1, 37);
        refused(3, "put", 1, 0, Scripts.LAST + 1);
        refused(3, "put", 1, 0, -1);
        refused(4, "put", 0, 0, 37);
        refused(4, "put", 1, 20, 46);
        refused(4, "put", 0, 18, 46);
        refused(4, "put", 0, 17, 46);
        refused(6, "put", 1, 0, 0);
        refused(6, "put", 1, 2, 35);
        refused(7, "put", 1, 2, 37);
        refused(7, "put", 1, 17, 43);
        refused(7, "put", 2, 17, 43);
        refused(8, "put", 1, 0, 38);
        refused(8, "put", 1, 8, 40);
        refused(8, "put", 1, 9, 41);
        refused(9, "put", 1, 0, 39);
        refused(9, "put", 1, 13, 47);
    }

    private static void out() {
        refused(1, "out", 3, 0);
        refused(1, "out", -1, 99);
        refused(2, "out", 0, 21);
        refused(2, "out", 0, -1);
        refused(2, "out", 0, MIN);
        refused(2, "out", 0, MAX);
        refused(5, "out", 0, 18);
        refused(5, "out", 0, 20);
        refused(5, "out", 1, 0);
        refused(5, "out", 2, 17);
    }

    private static void tyre() {
        refused(1, "tyre", 3, 43, 50);
        refused(3, "tyre", 2, Scripts.LAST + 1, 50);
        refused(4, "tyre", 0, 43, 50);
        refused(4, "tyre", 1, 43, 50);
        refused(6, "tyre", 2, 17, 50);
        refused(6, "tyre", 2, 18, 50);
        refused(7, "tyre", 2, 46, 50);
        refused(12, "tyre", 2, 43, 100);
        refused(12, "tyre", 2, 43, -1);
        refused(13, "tyre", 2, 43, 44);
        refused(14, "tyre", 2, 44, 50);
        refused(15, "tyre", 2, 45, 99);
    }

    private static void turnAndAlike() {
        refused(1, "turn", 3, 1);
        refused(16, "turn", 1, 1);
        refused(16, "turn", 2, 1);
        refused(16, "turn", 2, -1);
        int[] turns = {-1, 100001, MIN, MAX};
        for (int k : turns) {
            refused(17, "turn", 0, k);
        }
        refused(1, "alike", 3, 0, 0);
        refused(1, "alike", 0, 3, -1);
        refused(17, "alike", 0, 0, -1);
        refused(17, "alike", 1, 2, MIN);
    }

    private static void plans() {
        refused(1, "plan", 3);
        refused(1, "plan", -1);
        refused(1, "fill", 3);
        refused(1, "fill", -1);
        refused(9, "fill", 1);
    }

    private static void refused(int reason, String name, int... given) {
        int call = Calls.numbered(name);
        int[] g = Arrays.copyOf(given, 4);
        String words = Calls.inWords(call, g);
        for (int part = 0; part < PARTS; part++) {
            WheelYard x = Scripts.yard(script);
            int answer = Calls.ask(x, call, g[0], g[1], g[2], g[3]);
            c.due("the refused " + words, answer, Model.tellsYesOrNo(call) ? 0 : NONE);
            c.due("why() after " + words, x.why(), reason);
            int at = firstApart(look(x, part), due.get(part), name, part == 0 || part == 5);
            c.due("what is changed by " + words + " in part " + part, at, NONE);
        }
    }

    /** off() is as tyre() made it, refused or not, and planned() as fill() did, if its PLAN is for a later year. */
    private static int firstApart(int[] got, int[] want, String name, boolean ofWheels) {
        for (int i = 0; i < got.length; i++) {
            boolean told = i == 0 && name.equals("tyre") || i >= 1 && i <= 42 && name.equals("fill") && later;
            if (got[i] != want[i] && !(ofWheels && told)) {
                return i;
            }
        }
        return got.length == want.length ? NONE : got.length;
    }

    private static int[] look(WheelYard x, int part) {
        int[] seen = new int[400];
        switch (part) {
            case 0: return Arrays.copyOf(seen, wheels(x, seen));
            case 1: return Arrays.copyOf(seen, pieces(x, seen, 0));
            case 2: return Arrays.copyOf(seen, pieces(x, seen, 25));
            case 3: return Arrays.copyOf(seen, damps(x, seen));
            case 4: return Arrays.copyOf(seen, heats(x, seen));
            case 5: x.undo(); return Arrays.copyOf(seen, wheels(x, seen));
            case 6: x.undo(); return Arrays.copyOf(seen, places(x, seen));
            default: return Arrays.copyOf(seen, next(x, seen));
        }
    }

    private static int wheels(WheelYard x, int[] seen) {
        int i = 0;
        seen[i++] = x.off();
        for (int place = 0; place <= 41; place++) {
            seen[i++] = x.planned(place);
        }
        for (int what = 0; what <= 5; what++) {
            seen[i++] = x.count(what);
        }
        for (int w = 0; w <= 3; w++) {
            for (int what = 0; what <= 8; what++) {
                seen[i++] = x.told(w, what);
            }
            for (int place = 0; place <= 20; place++) {
                seen[i++] = x.at(w, place);
            }
            seen[i++] = x.missing(w);
            seen[i++] = x.space(w);
            seen[i++] = x.gap(w, 0);
            seen[i++] = x.gap(w, 3);
            seen[i++] = x.carries(w);
            seen[i++] = x.weakest(w);
        }
        return i;
    }

    private static int pieces(WheelYard x, int[] seen, int from) {
        int i = 0;
        for (int p = from; p < from + 25; p++) {
            for (int what = 0; what <= 8; what++) {
                seen[i++] = x.about(p, what);
            }
            seen[i++] = x.bears(p);
        }
        return i;
    }

    private static int damps(WheelYard x, int[] seen) {
        int i = 0;
        for (int wood = 0; wood <= 3; wood++) {
            for (int years = 0; years <= 60; years++) {
                seen[i++] = x.dampAt(wood, years);
            }
        }
        return i;
    }

    private static int heats(WheelYard x, int[] seen) {
        int i = 0;
        for (int degree = 0; degree <= 200; degree++) {
            seen[i++] = x.heated(30000, degree);
        }
        return i;
    }

    private static int places(WheelYard x, int[] seen) {
        int i = 0;
        for (int p = 0; p <= Scripts.LAST; p++) {
            for (int what = 5; what <= 7; what++) {
                seen[i++] = x.about(p, what);
            }
        }
        return i;
    }

    /** What comes next: numbers of new ones, years, PLANS, a TYRE. */
    private static int next(WheelYard x, int[] seen) {
        int i = 0;
        seen[i++] = x.piece(2, 0, 0, 1);
        seen[i++] = x.wheel(16, 100, 1, 1);
        for (int w = 0; w <= 3; w++) {
            seen[i++] = x.plan(w);
            seen[i++] = x.planned(0);
        }
        seen[i++] = x.tyre(2, 43, 50) ? 1 : 0;
        seen[i++] = x.why();
        seen[i++] = x.alike(0, 2, 0);
        seen[i++] = x.years(100);
        seen[i++] = x.count(5);
        seen[i++] = x.undo() ? 1 : 0;
        return i;
    }
}
