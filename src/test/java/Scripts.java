import java.util.ArrayList;
import java.util.List;

/** Runs of calls that make a yard, so that it can be made again and again, and Model along with it. */
final class Scripts {
    /** The last PIECE of busy(). */
    static final int LAST = 48;

    private final List<int[]> calls = new ArrayList<>();

    private Scripts add(String name, int... given) {
        int[] call = new int[5];
        call[0] = Calls.numbered(name);
        System.arraycopy(given, 0, call, 1, given.length);
        calls.add(call);
        return this;
    }

    private Scripts pieces(int many, int sort, int wood, int size) {
        for (int i = 0; i < many; i++) {
            add("piece", sort, wood, 0, size);
        }
        return this;
    }

    private Scripts allPieces() {
        return pieces(1, 0, 0, 8).pieces(8, 1, 0, 100).pieces(4, 3, 0, 150).pieces(4, 2, 0, 5);
    }

    /**
     * WHEEL 0 has a TYRE (PIECE 17) and is TRUE, WHEEL 1 a SPOKE (35) and a STRAKE (36), WHEEL 2 all but a rim
     * (PIECES 18 to 34); what comes then is FREE. Something is KEPT, and later on something was changed.
     */
    static List<int[]> busy() {
        Scripts s = new Scripts();
        s.add("dampRow", 0, 60, 10).add("dampRow", 1, 3, 50).add("damp", 1, 2, 20).add("dampRow", 2, 0, 0);
        s.add("strength", 1, 7).add("heatRow", 100, 100);
        s.add("wheel", 8, 100, 10, 101).add("wheel", 8, 100, 10, 101).add("wheel", 8, 100, 10, 101);
        s.allPieces().add("fill", 0).pieces(1, 4, 0, 610).add("tyre", 0, 17, 50).add("turn", 0, 3);
        s.allPieces().add("fill", 2).pieces(1, 1, 0, 100).pieces(1, 5, 0, 1);
        s.add("put", 1, 1, 35).add("keep").add("put", 1, 20, 36).add("years", 1).add("turn", 0, 4);
        s.pieces(1, 0, 0, 8).pieces(1, 0, 0, 10).pieces(1, 0, 3, 8).pieces(1, 1, 3, 99).pieces(1, 3, 0, 629);
        s.pieces(1, 2, 0, 5).pieces(1, 4, 0, 610).pieces(1, 4, 0, 629).pieces(1, 4, 0, 599).pieces(1, 5, 0, 1);
        s.pieces(1, 2, 1, 5).pieces(1, 3, 0, 479);
        s.add("tyre", 2, 43, 0);
        return s.calls;
    }

    /** WHEEL 0 has nothing, and what there is for it is DRY in 2 years; a PLAN for WHEEL 1, of other PIECES, stands. */
    static List<int[]> waiting() {
        Scripts s = new Scripts();
        s.add("dampRow", 0, 60, 10).add("dampRow", 1, 60, 50).add("damp", 1, 2, 20).add("heatRow", 100, 100);
        s.add("wheel", 8, 100, 10, 101).add("wheel", 8, 100, 10, 101).allPieces().add("fill", 1).add("keep");
        s.pieces(1, 0, 1, 8).pieces(8, 1, 1, 100).pieces(4, 3, 1, 150).pieces(4, 2, 1, 5);
        return s.calls;
    }

    /** As many PIECES and WHEELS as there may be. */
    static List<int[]> full() {
        Scripts s = new Scripts();
        s.add("dampRow", 0, 60, 10).add("heatRow", 200, 100);
        for (int w = 0; w < 20; w++) {
            s.add("wheel", 8 + w % 5 * 2, 100, 10, 101);
        }
        s.allPieces().add("fill", 0).pieces(1, 4, 0, 610).add("tyre", 0, 17, 50).pieces(182, 2, 0, 5).add("keep");
        s.add("put", 19, 25, 199);
        return s.calls;
    }

    static List<int[]> nothing() {
        return new ArrayList<>();
    }

    static WheelYard yard(List<int[]> calls) {
        WheelYard x = new WheelYard();
        for (int[] call : calls) {
            Calls.ask(x, call[0], call[1], call[2], call[3], call[4]);
        }
        return x;
    }

    static Model model(List<int[]> calls) {
        Model model = new Model();
        for (int[] call : calls) {
            model.ask(call[0], call[1], call[2], call[3], call[4]);
        }
        return model;
    }
}
