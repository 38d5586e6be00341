/** A wheel of eight spokes, from its pieces to its first thousand turns. */
public final class Example {
    private static final int NAVE = 0;
    private static final int SPOKE = 1;
    private static final int DOWEL = 2;
    private static final int FELLOE = 3;
    private static final int TYRE = 4;

    public static void main(String[] args) {
        WheelYard yard = new WheelYard();
        yard.dampRow(0, 60, 15);                     // wood 0 has a damp of 15 in each of 60 years: it is dry
        yard.heatRow(101, 20);                       // degrees 0 to 100, a length grows by 20 / 100000 a degree
        int wheel = yard.wheel(8, 100, 10, 101);     // 8 spokes, radius 100, half width 10, dish 1 / 1

        yard.piece(NAVE, 0, 0, 8);                   // of wood 0, with slope 0: a nave with 8 holes
        for (int i = 0; i < 8; i++) {
            yard.piece(SPOKE, 0, 0, yard.told(wheel, 3));
        }
        for (int i = 0; i < 4; i++) {
            yard.piece(FELLOE, 0, 0, 156);
            yard.piece(DOWEL, 0, 0, 20);
        }
        System.out.println("pieces that come to their places: " + yard.fill(wheel));
        System.out.println("gap between the first felloes: " + yard.gap(wheel, 0));

        int tyre = yard.piece(TYRE, 0, 0, 626);
        if (!yard.tyre(wheel, tyre, 50)) {           // refused: not hot enough
            System.out.println("reason " + yard.why() + ", too short by " + yard.off());
        }
        System.out.println("hotter, it goes on: " + yard.tyre(wheel, tyre, 100));
        System.out.println("gap that is left: " + yard.gap(wheel, 0));

        System.out.println("a thousand turns: " + yard.turn(wheel, 1000));
        System.out.println("it bears " + yard.carries(wheel) + ", its weakest place is " + yard.weakest(wheel));
        System.out.println("no such wheel: " + (yard.carries(wheel + 1) == WheelYard.NONE) + ", reason " + yard.why());
    }
}
