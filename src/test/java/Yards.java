/** Yards for tests: 8 SPOKES of 100, 4 FELLOES of 150, ROUND 628, SPACE 28, the rim's first place 17. */
final class Yards {
    static final int NAVE = 0;
    static final int SPOKE = 1;
    static final int DOWEL = 2;
    static final int FELLOE = 3;
    static final int TYRE = 4;
    static final int STRAKE = 5;
    static final int RIM = 17;

    /** WOOD 0 is DRY in each of its 60 years, 60 degrees are known, and WHEEL 0 has no PIECES. */
    static WheelYard withBareWheel() {
        WheelYard x = new WheelYard();
        x.dampRow(0, 60, 10);
        x.heatRow(100, 100);
        x.wheel(8, 100, 10, 101);
        return x;
    }

    /** PIECES 0 to 16 are at the places 0 to 16 of WHEEL 0. */
    static WheelYard withFramedWheel() {
        WheelYard x = withBareWheel();
        for (int place = 0; place < RIM; place++) {
            x.put(0, place, pieceFor(x, place));
        }
        return x;
    }

    /** A TYRE of 610, PIECE 17, is on WHEEL 0. */
    static WheelYard withTyre() {
        WheelYard x = withFramedWheel();
        x.tyre(0, x.piece(TYRE, 0, 0, 610), 50);
        return x;
    }

    /** STRAKES, PIECES 17 to 20, are at places 17 to 20 of WHEEL 0. */
    static WheelYard withStrakes() {
        WheelYard x = withFramedWheel();
        for (int place = RIM; place < RIM + 4; place++) {
            x.put(0, place, x.piece(STRAKE, 0, 0, 1));
        }
        return x;
    }

    static int pieceFor(WheelYard x, int place) {
        if (place == 0) {
            return x.piece(NAVE, 0, 0, 8);
        }
        if (place <= 8) {
            return x.piece(SPOKE, 0, 0, 100);
        }
        return place <= 12 ? x.piece(FELLOE, 0, 0, 150) : x.piece(DOWEL, 0, 0, 5);
    }

    static void pieces(WheelYard x, int many, int sort, int wood, int size) {
        for (int i = 0; i < many; i++) {
            x.piece(sort, wood, 0, size);
        }
    }

    /** STAND is 0, LONG r, and WOOD 0 is DRY in each of its 60 years; WHEEL 0 has no PIECES. */
    static WheelYard withBare(int n, int r) {
        WheelYard x = new WheelYard();
        x.dampRow(0, 60, 10);
        x.heatRow(200, 100);
        x.wheel(n, r, 1, 1);
        return x;
    }

    /** PIECES come to the places ahead of the rim of a WHEEL that has none there; SPACE is as told. */
    static void frame(WheelYard x, int w, int space) {
        int n = x.told(w, 0);
        int m = n / 2;
        int arc = (x.told(w, 4) - space) / m;
        x.put(w, 0, x.piece(NAVE, 0, 0, n));
        for (int i = 1; i <= n; i++) {
            x.put(w, i, x.piece(SPOKE, 0, 0, x.told(w, 3)));
        }
        for (int i = 1; i < m; i++) {
            x.put(w, n + i, x.piece(FELLOE, 0, 0, arc));
        }
        x.put(w, n + m, x.piece(FELLOE, 0, 0, x.told(w, 4) - space - arc * (m - 1)));
        for (int i = 1; i <= m; i++) {
            x.put(w, n + m + i, x.piece(DOWEL, 0, 0, 1));
        }
    }

    static void strakes(WheelYard x, int w) {
        for (int place = 2 * x.told(w, 0) + 1; place < x.told(w, 8); place++) {
            x.put(w, place, x.piece(STRAKE, 0, 0, 1));
        }
    }

    private Yards() {
    }
}
