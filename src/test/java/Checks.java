/** Counts the answers of one test that are not as due, and ends its run. */
final class Checks {
    private int asked = 0;
    private int wrong = 0;

    void due(String call, long got, long want) {
        asked++;
        if (got != want) {
            wrong++;
            System.out.println("  " + call + " answered " + got + ", due is " + want);
        }
    }

    void yes(String call, boolean got) {
        due(call, got ? 1 : 0, 1);
    }

    /** The call that answered was refused, for that REASON. */
    void refused(WheelYard x, String call, boolean got, int reason) {
        due(call, got ? 1 : 0, 0);
        due("why() after " + call, x.why(), reason);
    }

    void refused(WheelYard x, String call, int got, int reason) {
        due(call, got, WheelYard.NONE);
        due("why() after " + call, x.why(), reason);
    }

    /** The call that answered was not refused. */
    void agreed(WheelYard x, String call, int got, int want) {
        due(call, got, want);
        due("why() after " + call, x.why(), 0);
    }

    void agreed(WheelYard x, String call, boolean got) {
        due(call, got ? 1 : 0, 1);
        due("why() after " + call, x.why(), 0);
    }

    /** Numbers that are not from least to most: the nearest ones, and the farthest. */
    static int[] outside(int least, int most) {
        return new int[] {least - 1, most + 1, Integer.MIN_VALUE, Integer.MIN_VALUE + 1, Integer.MAX_VALUE - 1,
            Integer.MAX_VALUE};
    }

    void end() {
        System.out.println("  " + asked + " answers looked at, " + wrong + " not as due");
        if (wrong != 0) {
            System.exit(1);
        }
    }
}
