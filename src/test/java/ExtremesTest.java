import java.util.List;

/**
 * The extreme ints, and the last number allowed and the first that is not, as each argument of each call, in all
 * pairings: on a yard with nothing, a busy one, one that waits, and a full one, answers and REASONS being as Model's.
 */
public final class ExtremesTest {
    private static final int MIN = Integer.MIN_VALUE;
    private static final int MAX = Integer.MAX_VALUE;

    private static final int[] WOODS = {MIN, -1, 0, 1, 3, 4, MAX};
    private static final int[] AGES = {MIN, -1, 0, 2, 3, 59, 60, MAX};
    private static final int[] DAMPS = {MIN, -1, 0, 20, 100, 101, MAX};
    private static final int[] DEGREES = {MIN, -1, 0, 50, 99, 100, 199, 200, MAX};
    private static final int[] WHATS = {MIN, -1, 0, 1, 2, 3, 4, 5, 6, 7, 8, 9, MAX};
    private static final int[] WHEELS = {MIN, MIN + 1, -1, 0, 1, 2, 3, 19, 20, MAX - 1, MAX};
    private static final int[] PLACES = {MIN, -1, 0, 1, 8, 9, 12, 13, 16, 17, 18, 20, 21, 25, 40, 41, MAX};
    private static final int[] PIECES = {MIN, -1, 0, 16, 17, 34, 35, 36, 37, 38, 39, 40, 41, 42, 43, 44, 45, 46, 47, 48, 49,
        199, 200, MAX};
    private static final int[] HUNDRED = {MIN, MIN + 1, -1, 0, 1, 99, 100, 101, MAX - 1, MAX};
    private static final int[] ALL = {MIN, MIN + 1, -30000, -2500, -12, -1, 0, 1, 2, 12, 2499, 2500, 2501, 30000, 30001, MAX - 1,
        MAX};
    private static final int[] ONE = {0};

    private static final Checks c = new Checks();

    private static List<int[]> script;
    private static WheelYard yard;
    private static Model model;
    private static int made;

    public static void main(String[] args) {
        List<List<int[]>> scripts = List.of(Scripts.nothing(), Scripts.busy(), Scripts.waiting(), Scripts.full());
        for (List<int[]> each : scripts) {
            script = each;
            anew();
            rows();
            pieces();
            wheels();
            calls("put", WHEELS, PLACES, PIECES, ONE);
            calls("tyre", WHEELS, PIECES, DEGREES, ONE);
            calls("alike", WHEELS, WHEELS, HUNDRED, ONE);
            of("at", PLACES);
            of("out", PLACES);
            of("gap", new int[] {MIN, -1, 0, 3, 4, 7, 8, MAX});
            of("turn", new int[] {MIN, -1, 0, 1, 99999, 100000, 100001, MAX});
            String[] alone = {"space", "missing", "carries", "weakest", "plan", "fill"};
            for (String name : alone) {
                of(name, ONE);
            }
            calls("planned", PLACES, ONE, ONE, ONE);
            calls("bears", PIECES, ONE, ONE, ONE);
            calls("count", WHATS, ONE, ONE, ONE);
            String[] bare = {"why", "off", "keep", "undo"};
            for (String name : bare) {
                calls(name, ONE, ONE, ONE, ONE);
            }
        }
        c.end();
    }

    private static void rows() {
        calls("dampRow", WOODS, new int[] {MIN, -2, -1, 0, 1, 60, 61, MAX}, DAMPS, ONE);
        calls("damp", WOODS, AGES, DAMPS, ONE);
        calls("dampAt", WOODS, AGES, ONE, ONE);
        calls("strength", WOODS, new int[] {MIN, -1, 0, 1, 1000, 1001, MAX}, ONE, ONE);
        calls("heatRow", new int[] {MIN, -2, -1, 0, 1, 200, 201, MAX}, HUNDRED, ONE, ONE);
        calls("heated", new int[] {MIN, -1, 0, 1, 30000, 30001, MAX}, DEGREES, ONE, ONE);
        calls("years", HUNDRED, ONE, ONE, ONE);
        calls("measure", ALL, ALL, ONE, ONE);
    }

    private static void pieces() {
        int[] sorts = {MIN, -1, 0, 1, 2, 3, 4, 5, 6, MAX};
        calls("piece", sorts, WOODS, new int[] {MIN, -1, 0, 9, 10, MAX}, new int[] {MIN, -1, 0, 1, 30000, 30001, MAX});
        calls("about", PIECES, WHATS, ONE, ONE);
    }

    private static void wheels() {
        int[] spokes = {MIN, -8, 0, 7, 8, 9, 16, 17, 18, MAX};
        int[] dishes = {MIN, -101, -1, 0, 1, 100, 101, 200, 201, 10100, 10101, 10199, 10200, MAX};
        calls("wheel", spokes, new int[] {MIN, 29, 30, 4000, 4001, MAX}, new int[] {MIN, 0, 1, 2000, 2001, MAX}, dishes);
        of("told", WHATS);
    }

    private static void of(String name, int[] more) {
        calls(name, WHEELS, more, ONE, ONE);
    }

    private static void calls(String name, int[] as, int[] bs, int[] cs, int[] ds) {
        int call = Calls.numbered(name);
        for (int a : as) {
            for (int b : bs) {
                for (int e : cs) {
                    for (int d : ds) {
                        call(call, a, b, e, d);
                    }
                }
            }
        }
        anew();
    }

    /** What is not refused may change something, so that the next call has a yard of its own. */
    private static void call(int call, int a, int b, int e, int d) {
        int want = model.ask(call, a, b, e, d);
        String words = script.size() + " calls, and " + Calls.inWords(call, a, b, e, d);
        c.due(words, Calls.ask(yard, call, a, b, e, d), want);
        c.due("why() after " + words, yard.why(), model.ask(0, 0, 0, 0, 0));
        made += 2;
        boolean refused = want == (Model.tellsYesOrNo(call) ? 0 : WheelYard.NONE);
        if (!refused && changes(call) || made + 2 > Calls.MOST) {
            anew();
        }
    }

    private static boolean changes(int call) {
        String name = Calls.NAMES[call];
        String[] asking = {"why", "dampAt", "heated", "measure", "about", "told", "at", "space", "gap", "off", "missing", "bears",
            "carries", "weakest", "alike", "planned", "count"};
        for (String each : asking) {
            if (each.equals(name)) {
                return false;
            }
        }
        return true;
    }

    private static void anew() {
        yard = Scripts.yard(script);
        model = Scripts.model(script);
        made = script.size();
    }
}
