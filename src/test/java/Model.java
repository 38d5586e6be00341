import java.util.ArrayList;
import java.util.Comparator;
import java.util.List;
import java.util.TreeMap;

/**
 * The document's words once more, slowly: PIECES alone know where they are, a PLAN is looked for with sorted lists,
 * and what is KEPT is a copy. ModelTest holds WheelYard against it.
 */
final class Model {
    private static final class P {
        int number;
        int sort;
        int wood;
        int year;
        int slope;
        int size;
        int wear;
        W in;
        int place = -1;
    }

    private static final class W {
        int number;
        int n;
        int r;
        int stand;

        int m() {
            return n / 2;
        }

        int rim() {
            return n + 2 * m() + 1;
        }

        int places() {
            return n + 3 * m() + 1;
        }

        int tall() {
            return (int) Math.floor(Math.sqrt((double) r * r + (double) stand * stand));
        }

        int round() {
            return 710 * r / 113;
        }
    }

    private static final class Kept {
        int pieces;
        int wheels;
        int year;
        List<int[]> wears = new ArrayList<>();
    }

    /** The REASON of a refusal, thrown to whoever asked. */
    private static final class No extends RuntimeException {
        private static final long serialVersionUID = 1L;
        final int reason;

        No(int reason) {
            super(null, null, false, false);
            this.reason = reason;
        }
    }

    private interface Answer {
        int get();
    }

    private final List<List<Integer>> damps = new ArrayList<>();
    private final int[] strengths = {100, 100, 100, 100};
    private List<Integer> heat = null;
    private final List<P> pieces = new ArrayList<>();
    private final List<W> wheels = new ArrayList<>();
    private int year = 0;
    private int reason = 0;
    private int off = 0;
    private TreeMap<Integer, Integer> plan = new TreeMap<>();
    private Kept kept = null;

    Model() {
        for (int wood = 0; wood < 4; wood++) {
            damps.add(null);
        }
    }

    /** What call number 'call' answers: the calls stand in the order of the document's face. */
    int ask(int call, int a, int b, int c, int d) {
        switch (call) {
            case 0: return reason;
            case 3: return damp(a, b);
            case 8: return measure(a, b);
            case 19: return off;
            case 27: return plan.getOrDefault(a, -1);
            case 29: return keep();
            case 30: return undo();
            case 31: return count(a);
            default: return telling(call, a, b, c, d);
        }
    }

    private int telling(int call, int a, int b, int c, int d) {
        if (call == 18) {
            off = 0;
        }
        try {
            int answer = answer(call, a, b, c, d).get();
            reason = 0;
            return answer;
        } catch (No no) {
            reason = no.reason;
            return tellsYesOrNo(call) ? 0 : -1;
        }
    }

    static boolean tellsYesOrNo(int call) {
        return call == 1 || call == 2 || call == 4 || call == 5 || call == 14 || call == 18 || call == 24 || call == 30;
    }

    private Answer answer(int call, int a, int b, int c, int d) {
        switch (call) {
            case 1: return () -> dampRow(a, b, c);
            case 2: return () -> setDamp(a, b, c);
            case 4: return () -> strength(a, b);
            case 5: return () -> heatRow(a, b);
            case 6: return () -> heated(a, b);
            case 7: return () -> years(a);
            case 9: return () -> piece(a, b, c, d);
            case 10: return () -> about(a, b);
            case 11: return () -> wheel(a, b, c, d);
            case 12: return () -> told(a, b);
            case 13: return () -> at(a, b).number;
            case 14: return () -> put(a, b, c);
            case 15: return () -> out(a, b);
            case 16: return () -> space(a);
            case 17: return () -> gap(a, b);
            case 18: return () -> tyre(a, b, c);
            case 20: return () -> missing(a);
            case 21: return () -> bears(a);
            case 22: return () -> bearsOfTrue(a);
            case 23: return () -> weakest(a);
            case 24: return () -> turn(a, b);
            case 25: return () -> alike(a, b, c);
            case 26: return () -> plan(wheelOf(a));
            case 28: return () -> fill(a);
            default: throw new IllegalStateException("no call " + call);
        }
    }

    private static void need(boolean holds, int reason) {
        if (!holds) {
            throw new No(reason);
        }
    }

    private static boolean from(int least, int value, int most) {
        return least <= value && value <= most;
    }

    private W wheelOf(int w) {
        need(from(0, w, wheels.size() - 1), 1);
        return wheels.get(w);
    }

    private P pieceOf(int p) {
        need(from(0, p, pieces.size() - 1), 3);
        return pieces.get(p);
    }

    private P in(W wheel, int place) {
        for (P p : pieces) {
            if (p.in == wheel && p.place == place) {
                return p;
            }
        }
        return null;
    }

    private int dampRow(int wood, int n, int first) {
        need(from(0, wood, 3) && from(-1, n, 60) && from(0, first, 100), 17);
        List<Integer> row = new ArrayList<>();
        for (int i = 0; i < n; i++) {
            row.add(first);
        }
        damps.set(wood, n == -1 ? null : row);
        return 1;
    }

    private int setDamp(int wood, int years, int v) {
        need(damp(wood, years) != -1 && from(0, v, 100), 17);
        damps.get(wood).set(years, v);
        return 1;
    }

    private int damp(int wood, int years) {
        if (!from(0, wood, 3) || damps.get(wood) == null || !from(0, years, damps.get(wood).size() - 1)) {
            return -1;
        }
        return damps.get(wood).get(years);
    }

    private int strength(int wood, int v) {
        need(from(0, wood, 3) && from(1, v, 1000), 17);
        strengths[wood] = v;
        return 1;
    }

    private int heatRow(int n, int step) {
        need(from(-1, n, 200) && from(0, step, 100), 17);
        heat = n == -1 ? null : new ArrayList<>();
        for (int d = 0; d < n; d++) {
            heat.add(step * d);
        }
        return 1;
    }

    private int heated(int length, int degree) {
        need(from(0, length, 30000), 17);
        return hot(length, degree);
    }

    private int hot(int length, int degree) {
        need(heat != null, 11);
        need(from(0, degree, heat.size() - 1), 12);
        return length + (int) ((long) length * heat.get(degree) / 100000);
    }

    private int years(int n) {
        need(from(0, n, 100), 17);
        year += n;
        return year;
    }

    private static int measure(int a, int b) {
        float length = (float) a / (float) b * 12f;
        return Float.isNaN(length) || length < 0 || length > 30000 ? -1 : (int) length;
    }

    private int piece(int sort, int wood, int slope, int size) {
        need(from(0, sort, 5) && from(1, size, 30000) && pieces.size() < 200, 17);
        need(sort >= 4 || from(0, wood, 3) && from(0, slope, 9), 17);
        P p = new P();
        p.number = pieces.size();
        p.sort = sort;
        p.wood = sort >= 4 ? -1 : wood;
        p.year = sort >= 4 ? -1 : year;
        p.slope = sort >= 4 ? -1 : slope;
        p.size = size;
        pieces.add(p);
        return p.number;
    }

    private boolean dry(P p, int when) {
        int damp = p.sort >= 4 ? 0 : damp(p.wood, when - p.year);
        return from(0, damp, 20);
    }

    private int about(int number, int what) {
        P p = pieceOf(number);
        need(from(0, what, 8), 17);
        int[] all = {p.sort, p.wood, p.year, p.slope, p.size, p.wear, p.in == null ? -1 : p.in.number, p.place,
            dry(p, year) ? 1 : 0};
        return all[what];
    }

    private int wheel(int n, int r, int h, int dish) {
        need(from(8, n, 16) && n % 2 == 0 && from(30, r, 4000) && from(1, h, 2000) && wheels.size() < 20, 17);
        for (int b = 1; b <= 100; b++) {
            for (int a = 0; a <= b; a++) {
                if (100 * a + b == dish) {
                    W wheel = new W();
                    wheel.number = wheels.size();
                    wheel.n = n;
                    wheel.r = r;
                    wheel.stand = h * a / b;
                    wheels.add(wheel);
                    return wheel.number;
                }
            }
        }
        throw new No(17);
    }

    private boolean all(W wheel, int from, int end) {
        for (int place = from; place < end; place++) {
            if (in(wheel, place) == null) {
                return false;
            }
        }
        return true;
    }

    private int rim(W wheel) {
        int kind = 0;
        for (P p : pieces) {
            if (p.in == wheel && p.sort >= 4) {
                kind = p.sort == 4 ? 1 : 2;
            }
        }
        return kind;
    }

    private boolean isTrue(W wheel) {
        return all(wheel, 0, wheel.rim()) && (rim(wheel) == 1 || all(wheel, wheel.rim(), wheel.places()));
    }

    private int told(int w, int what) {
        W wheel = wheelOf(w);
        need(from(0, what, 8), 17);
        int there = 0;
        for (P p : pieces) {
            there += p.in == wheel && p.sort < 4 ? 1 : 0;
        }
        int[] all = {wheel.n, wheel.r, wheel.stand, wheel.tall(), wheel.round(), there, rim(wheel),
            isTrue(wheel) ? 1 : 0, wheel.places()};
        return all[what];
    }

    private P at(int w, int place) {
        W wheel = wheelOf(w);
        need(from(0, place, wheel.places() - 1), 2);
        P p = in(wheel, place);
        need(p != null, 5);
        return p;
    }

    private static int sortAt(W wheel, int place) {
        int[] ends = {1, wheel.n + 1, wheel.n + wheel.m() + 1, wheel.rim(), wheel.places()};
        int[] sorts = {0, 1, 3, 2, 5};
        int i = 0;
        while (place >= ends[i]) {
            i++;
        }
        return sorts[i];
    }

    private int arcs(W wheel) {
        int arcs = 0;
        for (P p : pieces) {
            arcs += p.in == wheel && p.sort == 3 ? p.size : 0;
        }
        return arcs;
    }

    private boolean fits(W wheel, P p) {
        return p.sort == 0 ? p.size == wheel.n : p.sort != 1 || p.size == wheel.tall();
    }

    private int put(int w, int place, int number) {
        W wheel = wheelOf(w);
        need(from(0, place, wheel.places() - 1), 2);
        P p = pieceOf(number);
        need(in(wheel, place) == null && (place < wheel.rim() || rim(wheel) != 1), 4);
        need(p.in == null, 6);
        need(p.sort == sortAt(wheel, place), 7);
        need(fits(wheel, p) && (p.sort != 3 || arcs(wheel) + p.size <= wheel.round()), 8);
        need(dry(p, year), 9);
        p.in = wheel;
        p.place = place;
        return 1;
    }

    /** No call: whether a PIECE is FREE, and of the SORT of a place. */
    boolean couldGo(int w, int place, int p) {
        return from(0, w, wheels.size() - 1) && from(0, place, wheels.get(w).places() - 1)
                && from(0, p, pieces.size() - 1) && pieces.get(p).in == null
                && pieces.get(p).sort == sortAt(wheels.get(w), place);
    }

    private int out(int w, int place) {
        P gone = at(w, place);
        P tyre = in(gone.in, gone.in.rim());
        if (tyre != null && tyre.sort == 4) {
            tyre.in = null;
            tyre.place = -1;
        }
        gone.in = null;
        gone.place = -1;
        return gone.number;
    }

    private int space(int w) {
        W wheel = wheelOf(w);
        need(all(wheel, wheel.n + 1, wheel.n + wheel.m() + 1), 10);
        return wheel.round() - arcs(wheel);
    }

    private int gap(int w, int i) {
        int space = space(w);
        W wheel = wheelOf(w);
        int m = wheel.m();
        need(from(0, i, m - 1), 17);
        int gap = space / m;
        if (i < space % m) {
            gap++;
        }
        if (rim(wheel) == 1) {
            int draw = wheel.round() - in(wheel, wheel.rim()).size;
            gap -= draw / m;
            if (i < draw % m) {
                gap--;
            }
        }
        return gap;
    }

    private void needOff(int tooMuch, int reason) {
        if (tooMuch > 0) {
            off = tooMuch;
            throw new No(reason);
        }
    }

    private int tyre(int w, int number, int degree) {
        W wheel = wheelOf(w);
        P p = pieceOf(number);
        need(rim(wheel) == 0, 4);
        need(p.in == null, 6);
        need(p.sort == 4, 7);
        need(all(wheel, 0, wheel.rim()), 10);
        needOff(wheel.round() + 9 - hot(p.size, degree), 13);
        needOff(p.size - wheel.round(), 14);
        needOff(wheel.round() - p.size - space(w), 15);
        p.in = wheel;
        p.place = wheel.rim();
        return 1;
    }

    private int missing(int w) {
        W wheel = wheelOf(w);
        int place = 0;
        while (place < wheel.rim() && in(wheel, place) != null) {
            place++;
        }
        return isTrue(wheel) ? -1 : place;
    }

    private int bears(int number) {
        P p = pieceOf(number);
        need(p.sort < 4, 7);
        int damp = damp(p.wood, year - p.year);
        int load = strengths[p.wood] * (20 - p.slope) * (120 - (damp == -1 ? 120 : damp)) - p.wear / 10;
        return load < 0 ? 0 : load;
    }

    private int bearsOfTrue(int w) {
        W wheel = wheelOf(w);
        need(isTrue(wheel), 16);
        int least = Integer.MAX_VALUE;
        for (P p : pieces) {
            if (p.in == wheel && (p.sort == 0 || p.sort == 1 || p.sort == 3)) {
                least = Math.min(least, bears(p.number));
            }
        }
        return least;
    }

    private int weakest(int w) {
        int least = bearsOfTrue(w);
        int place = 0;
        while (bears(in(wheelOf(w), place).number) != least) {
            place++;
        }
        return place;
    }

    private int turn(int w, int k) {
        W wheel = wheelOf(w);
        need(isTrue(wheel), 16);
        need(from(0, k, 100000), 17);
        int[] each = {1, 2, 1, 3, 4, 4};
        for (P p : pieces) {
            p.wear += p.in == wheel ? each[p.sort] * k : 0;
        }
        return 1;
    }

    private int alike(int w, int u, int t) {
        W one = wheelOf(w);
        W two = wheelOf(u);
        need(t >= 0, 17);
        if (!isTrue(one) || !isTrue(two) || one.n != two.n || one.r != two.r || one.stand != two.stand
                || rim(one) != rim(two)) {
            return 0;
        }
        int widest = 0;
        for (int i = 0; i < one.m(); i++) {
            widest = Math.max(widest, Math.abs(gap(w, i) - gap(u, i)));
        }
        return widest <= t ? 1 : 0;
    }

    private int plan(W wheel) {
        for (int when = year; when <= year + 60; when++) {
            TreeMap<Integer, Integer> found = planIn(wheel, when);
            if (found != null) {
                plan = found;
                return when;
            }
        }
        return -1;
    }

    private TreeMap<Integer, Integer> planIn(W wheel, int when) {
        TreeMap<Integer, Integer> found = new TreeMap<>();
        int arcs = arcs(wheel);
        List<List<P>> ready = new ArrayList<>();
        for (int sort = 0; sort < 4; sort++) {
            ready.add(ready(wheel, sort, when));
        }
        for (int place = 0; place < wheel.rim(); place++) {
            if (in(wheel, place) != null) {
                continue;
            }
            List<P> some = ready.get(sortAt(wheel, place));
            if (some.isEmpty()) {
                return null;
            }
            P taken = some.remove(0);
            arcs += taken.sort == 3 ? taken.size : 0;
            found.put(place, taken.number);
        }
        return arcs <= wheel.round() ? found : null;
    }

    private List<P> ready(W wheel, int sort, int when) {
        List<P> some = new ArrayList<>();
        for (P p : pieces) {
            if (p.in == null && p.sort == sort && fits(wheel, p) && dry(p, when)) {
                some.add(p);
            }
        }
        if (sort == 3) {
            some.sort(Comparator.comparingInt((P p) -> p.size).thenComparingInt(p -> p.number));
        }
        return some;
    }

    private int fill(int w) {
        W wheel = wheelOf(w);
        need(plan(wheel) == year, 9);
        plan.forEach((place, number) -> {
            pieces.get(number).in = wheel;
            pieces.get(number).place = place;
        });
        return plan.size();
    }

    private int keep() {
        kept = new Kept();
        kept.pieces = pieces.size();
        kept.wheels = wheels.size();
        kept.year = year;
        for (P p : pieces) {
            kept.wears.add(new int[] {p.wear, p.in == null ? -1 : p.in.number, p.place});
        }
        return 0;
    }

    private int undo() {
        if (kept == null) {
            return 0;
        }
        pieces.subList(kept.pieces, pieces.size()).clear();
        wheels.subList(kept.wheels, wheels.size()).clear();
        year = kept.year;
        for (P p : pieces) {
            int[] was = kept.wears.get(p.number);
            p.wear = was[0];
            p.in = was[1] == -1 ? null : wheels.get(was[1]);
            p.place = was[2];
        }
        return 1;
    }

    private int count(int what) {
        int free = 0;
        int dry = 0;
        int whole = 0;
        for (P p : pieces) {
            free += p.in == null ? 1 : 0;
            dry += p.in == null && p.sort < 4 && dry(p, year) ? 1 : 0;
        }
        for (W wheel : wheels) {
            whole += isTrue(wheel) ? 1 : 0;
        }
        int[] all = {year, pieces.size(), free, wheels.size(), whole, dry};
        return from(0, what, 5) ? all[what] : -1;
    }
}
