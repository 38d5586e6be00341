import java.util.Arrays;

/** A wheelwright's yard, as ../shared/DOC.md promises it. Words in capitals are the document's terms. */
public final class WheelYard {
    public static final int NONE = -1;

    private static final int NAVE = 0;
    private static final int SPOKE = 1;
    private static final int DOWEL = 2;
    private static final int FELLOE = 3;
    private static final int TYRE = 4;
    private static final int STRAKE = 5;

    private static final int NO_WHEEL = 1;
    private static final int NO_PLACE = 2;
    private static final int NO_PIECE = 3;
    private static final int TAKEN = 4;
    private static final int EMPTY = 5;
    private static final int NOT_FREE = 6;
    private static final int OTHER_SORT = 7;
    private static final int NO_FIT = 8;
    private static final int NOT_DRY = 9;
    private static final int NOT_ALL = 10;
    private static final int NO_HEAT_ROW = 11;
    private static final int NO_DEGREE = 12;
    private static final int TOO_SHORT = 13;
    private static final int TOO_LONG = 14;
    private static final int TOO_TIGHT = 15;
    private static final int NOT_TRUE = 16;
    private static final int NOT_AS_TOLD = 17;

    private static final int RIM_BARE = 0;
    private static final int RIM_TYRE = 1;
    private static final int RIM_STRAKES = 2;

    private static final int MOST_WOODS = 4;
    private static final int MOST_YEARS = 60;
    private static final int MOST_DAMP = 100;
    private static final int DRY_DAMP = 20;
    private static final int UNKNOWN_DAMP = 120;
    private static final int FIRST_STRENGTH = 100;
    private static final int MOST_STRENGTH = 1000;
    private static final int MOST_DEGREES = 200;
    private static final int MOST_STEP = 100;
    private static final int HEAT_SCALE = 100000;
    private static final int MOST_YEARS_AT_ONCE = 100;
    private static final int MOST_SIZE = 30000;
    private static final int MOST_SLOPE = 9;
    private static final int MOST_PIECES = 200;
    private static final int MOST_WHEELS = 20;
    private static final int MOST_PLACES = 41;
    private static final int TYRE_PLAY = 9;
    private static final int MOST_TURNS = 100000;
    private static final int MOST_WEAR = 2000000000;
    private static final int YEARS_AHEAD = 60;

    private final Woods woods;
    private final HeatRow heat;
    private final Stock stock;
    private final Wheel[] wheels;
    private final Plan latestPlan;
    private int wheelCount;
    private int thisYear;
    private int reason;
    private int tyreOff;
    private boolean anyKept;
    private int keptWheelCount;
    private int keptYear;

    public WheelYard() {
        woods = new Woods();
        heat = new HeatRow();
        stock = new Stock();
        wheels = new Wheel[MOST_WHEELS];
        latestPlan = new Plan();
    }

    public int why() {
        return reason;
    }

    public boolean dampRow(int wood, int n, int first) {
        if (!woods.knows(wood) || !isWithin(n, NONE, MOST_YEARS) || !isWithin(first, 0, MOST_DAMP)) {
            return refuse(NOT_AS_TOLD);
        }
        woods.setRow(wood, n, first);
        return agree();
    }

    public boolean damp(int wood, int years, int v) {
        if (!woods.hasDamp(wood, years) || !isWithin(v, 0, MOST_DAMP)) {
            return refuse(NOT_AS_TOLD);
        }
        woods.setDamp(wood, years, v);
        return agree();
    }

    public int dampAt(int wood, int years) {
        return woods.dampAfter(wood, years);
    }

    public boolean strength(int wood, int v) {
        if (!woods.knows(wood) || !isWithin(v, 1, MOST_STRENGTH)) {
            return refuse(NOT_AS_TOLD);
        }
        woods.setStrength(wood, v);
        return agree();
    }

    public boolean heatRow(int n, int step) {
        if (!isWithin(n, NONE, MOST_DEGREES) || !isWithin(step, 0, MOST_STEP)) {
            return refuse(NOT_AS_TOLD);
        }
        heat.setRow(n, step);
        return agree();
    }

    public int heated(int length, int degree) {
        if (!isWithin(length, 0, MOST_SIZE)) {
            return refuseNone(NOT_AS_TOLD);
        }
        int trouble = heat.whyNot(degree);
        return trouble == 0 ? answer(heat.lengthen(length, degree)) : refuseNone(trouble);
    }

    public int years(int n) {
        if (!isWithin(n, 0, MOST_YEARS_AT_ONCE)) {
            return refuseNone(NOT_AS_TOLD);
        }
        thisYear += n;
        return answer(thisYear);
    }

    public int measure(int a, int b) {
        // A divisor of 0 tells no number, or one without end: neither is a length.
        if (b == 0) {
            return NONE;
        }
        float length = (float) a / (float) b * 12f;
        if (length < 0f || length > (float) MOST_SIZE) {
            return NONE;
        }
        return (int) length;
    }

    public int piece(int sort, int wood, int slope, int size) {
        if (!isWithin(sort, NAVE, STRAKE) || !isWithin(size, 1, MOST_SIZE) || stock.isFull()) {
            return refuseNone(NOT_AS_TOLD);
        }
        if (sort >= TYRE) {
            return answer(stock.make(sort, NONE, NONE, size, NONE));
        }
        if (!woods.knows(wood) || !isWithin(slope, 0, MOST_SLOPE)) {
            return refuseNone(NOT_AS_TOLD);
        }
        return answer(stock.make(sort, wood, slope, size, thisYear));
    }

    public int about(int p, int what) {
        Piece piece = stock.numbered(p);
        if (piece == null) {
            return refuseNone(NO_PIECE);
        }
        switch (what) {
            case 0: return answer(piece.sort);
            case 1: return answer(piece.wood);
            case 2: return answer(piece.cutYear);
            case 3: return answer(piece.slope);
            case 4: return answer(piece.size);
            case 5: return answer(piece.wear);
            case 6: return answer(piece.wheel);
            case 7: return answer(piece.place);
            case 8: return answer(woods.isDry(piece, thisYear) ? 1 : 0);
            default: return refuseNone(NOT_AS_TOLD);
        }
    }

    public int wheel(int n, int r, int h, int dish) {
        if (!isSpokeCount(n) || !isWithin(r, 30, 4000) || !isWithin(h, 1, 2000)
                || !isWithin(dish, 1, 10100) || wheelCount >= wheels.length) {
            return refuseNone(NOT_AS_TOLD);
        }
        // b is 1 to 100, so that 100 a + 100 is a / 100, and not (a + 1) / 0.
        int a = (dish - 1) / 100;
        int b = dish - 100 * a;
        if (b < 1 || a > b) {
            return refuseNone(NOT_AS_TOLD);
        }
        int made = wheelCount;
        if (wheels[made] == null) {
            wheels[made] = new Wheel(made);
        }
        wheels[made].shape(n, r, h * a / b);
        wheelCount++;
        return answer(made);
    }

    public int told(int w, int what) {
        Wheel wheel = wheelNumbered(w);
        if (wheel == null) {
            return refuseNone(NO_WHEEL);
        }
        switch (what) {
            case 0: return answer(wheel.spokes);
            case 1: return answer(wheel.radius);
            case 2: return answer(wheel.stand);
            case 3: return answer(wheel.spokeLength);
            case 4: return answer(wheel.round);
            case 5: return answer(wheel.takenBeforeRim());
            case 6: return answer(rimOf(wheel));
            case 7: return answer(isTrue(wheel) ? 1 : 0);
            case 8: return answer(wheel.placeCount);
            default: return refuseNone(NOT_AS_TOLD);
        }
    }

    public int at(int w, int place) {
        Wheel wheel = wheelNumbered(w);
        int trouble = whyNothingAt(wheel, place);
        return trouble == 0 ? answer(wheel.pieceAt(place)) : refuseNone(trouble);
    }

    public boolean put(int w, int place, int p) {
        Wheel wheel = wheelNumbered(w);
        if (wheel == null) {
            return refuse(NO_WHEEL);
        }
        if (!wheel.hasPlace(place)) {
            return refuse(NO_PLACE);
        }
        Piece piece = stock.numbered(p);
        if (piece == null) {
            return refuse(NO_PIECE);
        }
        int trouble = whyNoPut(wheel, place, piece);
        if (trouble != 0) {
            return refuse(trouble);
        }
        settle(wheel, place, piece);
        return agree();
    }

    public int out(int w, int place) {
        Wheel wheel = wheelNumbered(w);
        int trouble = whyNothingAt(wheel, place);
        if (trouble != 0) {
            return refuseNone(trouble);
        }
        if (rimOf(wheel) == RIM_TYRE) {
            // A TYRE holds only a WHEEL that is whole, so it goes with whatever goes.
            int gone = release(wheel, place);
            release(wheel, wheel.rimPlace);
            return answer(gone);
        }
        return answer(release(wheel, place));
    }

    public int space(int w) {
        Wheel wheel = wheelNumbered(w);
        int trouble = whyNoSpace(wheel);
        return trouble == 0 ? answer(spaceOf(wheel)) : refuseNone(trouble);
    }

    public int gap(int w, int i) {
        Wheel wheel = wheelNumbered(w);
        int trouble = whyNoSpace(wheel);
        if (trouble != 0) {
            return refuseNone(trouble);
        }
        if (!isWithin(i, 0, wheel.felloes - 1)) {
            return refuseNone(NOT_AS_TOLD);
        }
        return answer(gapOf(wheel, i));
    }

    public boolean tyre(int w, int p, int degree) {
        tyreOff = 0;
        Wheel wheel = wheelNumbered(w);
        if (wheel == null) {
            return refuse(NO_WHEEL);
        }
        Piece piece = stock.numbered(p);
        if (piece == null) {
            return refuse(NO_PIECE);
        }
        int trouble = whyNoTyre(wheel, piece, degree);
        if (trouble != 0) {
            tyreOff = howFarOff(trouble, wheel, piece, degree);
            return refuse(trouble);
        }
        settle(wheel, wheel.rimPlace, piece);
        return agree();
    }

    public int off() {
        return tyreOff;
    }

    public int missing(int w) {
        Wheel wheel = wheelNumbered(w);
        if (wheel == null) {
            return refuseNone(NO_WHEEL);
        }
        return answer(isTrue(wheel) ? NONE : wheel.firstEmptyBeforeRim());
    }

    public int bears(int p) {
        Piece piece = stock.numbered(p);
        if (piece == null) {
            return refuseNone(NO_PIECE);
        }
        return piece.isOfWood() ? answer(loadOf(piece)) : refuseNone(OTHER_SORT);
    }

    public int carries(int w) {
        Wheel wheel = wheelNumbered(w);
        int trouble = whyNotTrue(wheel);
        return trouble == 0 ? answer(loadAt(wheel, weakestPlace(wheel))) : refuseNone(trouble);
    }

    public int weakest(int w) {
        Wheel wheel = wheelNumbered(w);
        int trouble = whyNotTrue(wheel);
        return trouble == 0 ? answer(weakestPlace(wheel)) : refuseNone(trouble);
    }

    public boolean turn(int w, int k) {
        Wheel wheel = wheelNumbered(w);
        int trouble = whyNotTrue(wheel);
        if (trouble != 0) {
            return refuse(trouble);
        }
        if (!isWithin(k, 0, MOST_TURNS) || !canWear(wheel, k)) {
            return refuse(NOT_AS_TOLD);
        }
        wearOut(wheel, k);
        return agree();
    }

    public int alike(int w, int u, int t) {
        Wheel one = wheelNumbered(w);
        Wheel other = wheelNumbered(u);
        if (one == null || other == null) {
            return refuseNone(NO_WHEEL);
        }
        if (t < 0) {
            return refuseNone(NOT_AS_TOLD);
        }
        boolean pair = isTrue(one) && isTrue(other) && one.isShapedAs(other)
                && rimOf(one) == rimOf(other) && haveLikeGaps(one, other, t);
        return answer(pair ? 1 : 0);
    }

    public int plan(int w) {
        Wheel wheel = wheelNumbered(w);
        if (wheel == null) {
            return refuseNone(NO_WHEEL);
        }
        return answer(latestPlan.make(wheel, stock, woods, thisYear));
    }

    public int planned(int place) {
        return latestPlan.pieceFor(place);
    }

    public int fill(int w) {
        Wheel wheel = wheelNumbered(w);
        if (wheel == null) {
            return refuseNone(NO_WHEEL);
        }
        if (latestPlan.make(wheel, stock, woods, thisYear) != thisYear) {
            return refuseNone(NOT_DRY);
        }
        return answer(settlePlan(wheel));
    }

    public void keep() {
        stock.store();
        keptWheelCount = wheelCount;
        keptYear = thisYear;
        anyKept = true;
    }

    public boolean undo() {
        if (!anyKept) {
            return false;
        }
        stock.restore();
        wheelCount = keptWheelCount;
        thisYear = keptYear;
        bringBackPlaces();
        return true;
    }

    public int count(int what) {
        switch (what) {
            case 0: return thisYear;
            case 1: return stock.count;
            case 2: return countFree();
            case 3: return wheelCount;
            case 4: return countTrue();
            case 5: return countFreeAndDry();
            default: return NONE;
        }
    }

    private boolean refuse(int number) {
        reason = number;
        return false;
    }

    private int refuseNone(int number) {
        reason = number;
        return NONE;
    }

    private boolean agree() {
        reason = 0;
        return true;
    }

    private int answer(int value) {
        reason = 0;
        return value;
    }

    private static boolean isWithin(int value, int least, int most) {
        return value >= least && value <= most;
    }

    private static boolean isSpokeCount(int n) {
        return isWithin(n, 8, 16) && n % 2 == 0;
    }

    private Wheel wheelNumbered(int w) {
        if (w < 0 || w >= wheelCount || w >= wheels.length) {
            return null;
        }
        return wheels[w];
    }

    private static int whyNothingAt(Wheel wheel, int place) {
        if (wheel == null) {
            return NO_WHEEL;
        }
        if (!wheel.hasPlace(place)) {
            return NO_PLACE;
        }
        return wheel.isTaken(place) ? 0 : EMPTY;
    }

    private int whyNoPut(Wheel wheel, int place, Piece piece) {
        boolean underTyre = place >= wheel.rimPlace && rimOf(wheel) == RIM_TYRE;
        if (underTyre || wheel.isTaken(place)) {
            return TAKEN;
        }
        if (!piece.isFree()) {
            return NOT_FREE;
        }
        if (piece.sort != wheel.sortAt(place)) {
            return OTHER_SORT;
        }
        if (!wheel.admits(piece) || piece.sort == FELLOE && arcsOf(wheel) + piece.size > wheel.round) {
            return NO_FIT;
        }
        return woods.isDry(piece, thisYear) ? 0 : NOT_DRY;
    }

    private int whyNoTyre(Wheel wheel, Piece piece, int degree) {
        if (rimOf(wheel) != RIM_BARE) {
            return TAKEN;
        }
        if (!piece.isFree()) {
            return NOT_FREE;
        }
        if (piece.sort != TYRE) {
            return OTHER_SORT;
        }
        if (!wheel.isFullBeforeRim()) {
            return NOT_ALL;
        }
        int trouble = heat.whyNot(degree);
        if (trouble != 0) {
            return trouble;
        }
        if (heat.lengthen(piece.size, degree) < wheel.round + TYRE_PLAY) {
            return TOO_SHORT;
        }
        if (piece.size > wheel.round) {
            return TOO_LONG;
        }
        return wheel.round - piece.size > spaceOf(wheel) ? TOO_TIGHT : 0;
    }

    private int howFarOff(int trouble, Wheel wheel, Piece piece, int degree) {
        switch (trouble) {
            case TOO_SHORT: return wheel.round + TYRE_PLAY - heat.lengthen(piece.size, degree);
            case TOO_LONG: return piece.size - wheel.round;
            case TOO_TIGHT: return wheel.round - piece.size - spaceOf(wheel);
            default: return 0;
        }
    }

    private static int whyNoSpace(Wheel wheel) {
        if (wheel == null) {
            return NO_WHEEL;
        }
        return wheel.hasAllFelloes() ? 0 : NOT_ALL;
    }

    private int whyNotTrue(Wheel wheel) {
        if (wheel == null) {
            return NO_WHEEL;
        }
        return isTrue(wheel) ? 0 : NOT_TRUE;
    }

    private static void settle(Wheel wheel, int place, Piece piece) {
        wheel.lay(place, piece.number);
        piece.wheel = wheel.number;
        piece.place = place;
    }

    private int release(Wheel wheel, int place) {
        int number = wheel.pieceAt(place);
        Piece piece = stock.numbered(number);
        if (piece != null) {
            piece.wheel = NONE;
            piece.place = NONE;
        }
        wheel.lay(place, NONE);
        return number;
    }

    private int rimOf(Wheel wheel) {
        for (int place = wheel.rimPlace; place < wheel.placeCount; place++) {
            Piece piece = stock.numbered(wheel.pieceAt(place));
            if (piece != null) {
                return piece.sort == TYRE ? RIM_TYRE : RIM_STRAKES;
            }
        }
        return RIM_BARE;
    }

    private boolean isTrue(Wheel wheel) {
        if (!wheel.isFullBeforeRim()) {
            return false;
        }
        return rimOf(wheel) == RIM_TYRE || wheel.isFull(wheel.rimPlace, wheel.placeCount);
    }

    private int arcsOf(Wheel wheel) {
        int arcs = 0;
        for (int place = wheel.firstFelloe; place < wheel.firstDowel; place++) {
            Piece piece = stock.numbered(wheel.pieceAt(place));
            arcs += piece == null ? 0 : piece.size;
        }
        return arcs;
    }

    private int spaceOf(Wheel wheel) {
        return wheel.round - arcsOf(wheel);
    }

    private int gapOf(Wheel wheel, int i) {
        int gap = share(spaceOf(wheel), wheel.felloes, i);
        Piece rim = stock.numbered(wheel.pieceAt(wheel.rimPlace));
        if (rim != null && rim.sort == TYRE) {
            gap -= share(wheel.round - rim.size, wheel.felloes, i);
        }
        return gap;
    }

    /** Part i of a whole dealt out to so many parts, the first ones getting what is left over. */
    private static int share(int whole, int parts, int i) {
        if (parts <= 0) {
            return 0;
        }
        return whole / parts + (i < whole % parts ? 1 : 0);
    }

    private boolean haveLikeGaps(Wheel one, Wheel other, int t) {
        for (int i = 0; i < one.felloes; i++) {
            if (Math.abs(gapOf(one, i) - gapOf(other, i)) > t) {
                return false;
            }
        }
        return true;
    }

    private int loadOf(Piece piece) {
        int known = woods.dampAfter(piece.wood, thisYear - piece.cutYear);
        int damp = known == NONE ? UNKNOWN_DAMP : known;
        int load = woods.strengthOf(piece.wood) * (20 - piece.slope) * (120 - damp);
        return Math.max(0, load - piece.wear / 10);
    }

    private int loadAt(Wheel wheel, int place) {
        Piece piece = stock.numbered(wheel.pieceAt(place));
        return piece == null ? 0 : loadOf(piece);
    }

    private int weakestPlace(Wheel wheel) {
        int weakest = 0;
        int least = loadAt(wheel, 0);
        for (int place = 1; place < wheel.firstDowel; place++) {
            int load = loadAt(wheel, place);
            if (load < least) {
                weakest = place;
                least = load;
            }
        }
        return weakest;
    }

    private static int wearOfTurn(int sort) {
        switch (sort) {
            case SPOKE: return 2;
            case FELLOE: return 3;
            case TYRE:
            case STRAKE: return 4;
            default: return 1;
        }
    }

    private boolean canWear(Wheel wheel, int turns) {
        for (int place = 0; place < wheel.placeCount; place++) {
            Piece piece = stock.numbered(wheel.pieceAt(place));
            if (piece != null && piece.wear + (long) wearOfTurn(piece.sort) * turns > MOST_WEAR) {
                return false;
            }
        }
        return true;
    }

    private void wearOut(Wheel wheel, int turns) {
        for (int place = 0; place < wheel.placeCount; place++) {
            Piece piece = stock.numbered(wheel.pieceAt(place));
            if (piece != null) {
                piece.wear += wearOfTurn(piece.sort) * turns;
            }
        }
    }

    private int settlePlan(Wheel wheel) {
        int settled = 0;
        for (int place = 0; place < wheel.rimPlace; place++) {
            Piece piece = stock.numbered(latestPlan.pieceFor(place));
            if (piece != null) {
                settle(wheel, place, piece);
                settled++;
            }
        }
        return settled;
    }

    private void bringBackPlaces() {
        for (int w = 0; w < wheelCount; w++) {
            Wheel wheel = wheelNumbered(w);
            if (wheel != null) {
                wheel.clear();
            }
        }
        for (int p = 0; p < stock.count; p++) {
            Piece piece = stock.numbered(p);
            Wheel wheel = piece == null ? null : wheelNumbered(piece.wheel);
            if (wheel != null) {
                wheel.lay(piece.place, p);
            }
        }
    }

    private int countFree() {
        int free = 0;
        for (int p = 0; p < stock.count; p++) {
            Piece piece = stock.numbered(p);
            free += piece != null && piece.isFree() ? 1 : 0;
        }
        return free;
    }

    private int countFreeAndDry() {
        int dry = 0;
        for (int p = 0; p < stock.count; p++) {
            Piece piece = stock.numbered(p);
            dry += piece != null && piece.isFree() && piece.isOfWood() && woods.isDry(piece, thisYear) ? 1 : 0;
        }
        return dry;
    }

    private int countTrue() {
        int trueOnes = 0;
        for (int w = 0; w < wheelCount; w++) {
            Wheel wheel = wheelNumbered(w);
            trueOnes += wheel != null && isTrue(wheel) ? 1 : 0;
        }
        return trueOnes;
    }

    /** The DAMP ROWS and STRENGTHS of all WOODS. */
    private static final class Woods {
        final int[][] rows = new int[MOST_WOODS][MOST_YEARS];
        final int[] lengths = new int[MOST_WOODS];
        final int[] strengths = new int[MOST_WOODS];

        Woods() {
            Arrays.fill(lengths, NONE);
            Arrays.fill(strengths, FIRST_STRENGTH);
        }

        boolean knows(int wood) {
            return wood >= 0 && wood < MOST_WOODS;
        }

        /** A length of NONE makes the ROW MISSING. */
        void setRow(int wood, int length, int first) {
            if (knows(wood)) {
                lengths[wood] = length;
                Arrays.fill(rows[wood], first);
            }
        }

        boolean hasDamp(int wood, int years) {
            return wood >= 0 && wood < MOST_WOODS && years >= 0 && years < MOST_YEARS && years < lengths[wood];
        }

        void setDamp(int wood, int years, int v) {
            if (hasDamp(wood, years)) {
                rows[wood][years] = v;
            }
        }

        int dampAfter(int wood, int years) {
            return hasDamp(wood, years) ? rows[wood][years] : NONE;
        }

        boolean isDry(Piece piece, int year) {
            if (!piece.isOfWood()) {
                return true;
            }
            int damp = dampAfter(piece.wood, year - piece.cutYear);
            return damp != NONE && damp <= DRY_DAMP;
        }

        void setStrength(int wood, int v) {
            if (knows(wood)) {
                strengths[wood] = v;
            }
        }

        int strengthOf(int wood) {
            return knows(wood) ? strengths[wood] : 0;
        }
    }

    /** How much a length grows by the degree. */
    private static final class HeatRow {
        final int[] numbers = new int[MOST_DEGREES];
        int length = NONE;

        /** A length of NONE makes the ROW MISSING. */
        void setRow(int newLength, int step) {
            length = newLength;
            for (int degree = 0; degree < numbers.length; degree++) {
                numbers[degree] = step * degree;
            }
        }

        boolean hasDegree(int degree) {
            return degree >= 0 && degree < length && degree < numbers.length;
        }

        int whyNot(int degree) {
            if (length == NONE) {
                return NO_HEAT_ROW;
            }
            return hasDegree(degree) ? 0 : NO_DEGREE;
        }

        int lengthen(int size, int degree) {
            return hasDegree(degree) ? size + size * numbers[degree] / HEAT_SCALE : size;
        }
    }

    /** A PIECE, and of it what is KEPT. TYRES and STRAKES have NONE as wood, year and slope. */
    private static final class Piece {
        final int number;
        int sort;
        int wood;
        int cutYear;
        int slope;
        int size;
        int wear;
        int wheel;
        int place;
        int keptWear;
        int keptWheel;
        int keptPlace;

        Piece(int number) {
            this.number = number;
        }

        void shape(int newSort, int newWood, int newSlope, int newSize, int year) {
            sort = newSort;
            wood = newWood;
            slope = newSlope;
            size = newSize;
            cutYear = year;
            wear = 0;
            wheel = NONE;
            place = NONE;
        }

        boolean isFree() {
            return wheel == NONE;
        }

        boolean isOfWood() {
            return sort < TYRE;
        }

        void store() {
            keptWear = wear;
            keptWheel = wheel;
            keptPlace = place;
        }

        void restore() {
            wear = keptWear;
            wheel = keptWheel;
            place = keptPlace;
        }
    }

    /** All PIECES. One that undo() took away is shaped anew when its number comes again. */
    private static final class Stock {
        final Piece[] pieces = new Piece[MOST_PIECES];
        int count;
        int keptCount;

        boolean isFull() {
            return count >= pieces.length;
        }

        Piece numbered(int p) {
            if (p < 0 || p >= count || p >= pieces.length) {
                return null;
            }
            return pieces[p];
        }

        int make(int sort, int wood, int slope, int size, int year) {
            if (isFull()) {
                return NONE;
            }
            int made = count;
            if (pieces[made] == null) {
                pieces[made] = new Piece(made);
            }
            pieces[made].shape(sort, wood, slope, size, year);
            count++;
            return made;
        }

        void store() {
            keptCount = count;
            for (int p = 0; p < count; p++) {
                Piece piece = numbered(p);
                if (piece != null) {
                    piece.store();
                }
            }
        }

        void restore() {
            count = keptCount;
            for (int p = 0; p < count; p++) {
                Piece piece = numbered(p);
                if (piece != null) {
                    piece.restore();
                }
            }
        }
    }

    /** A WHEEL's shape, and the numbers of the PIECES at its PLACES. */
    private static final class Wheel {
        final int number;
        final int[] places = new int[MOST_PLACES];
        int spokes;
        int felloes;
        int firstFelloe;
        int firstDowel;
        int rimPlace;
        int placeCount;
        int radius;
        int stand;
        int spokeLength;
        int round;

        Wheel(int number) {
            this.number = number;
        }

        void shape(int newSpokes, int newRadius, int newStand) {
            spokes = newSpokes;
            felloes = newSpokes / 2;
            firstFelloe = spokes + 1;
            firstDowel = firstFelloe + felloes;
            rimPlace = firstDowel + felloes;
            placeCount = rimPlace + felloes;
            radius = newRadius;
            stand = newStand;
            spokeLength = wholeRoot(newRadius * newRadius + newStand * newStand);
            round = 710 * newRadius / 113;
            clear();
        }

        /** Bit by bit from above: the greatest LONG is 4472, below 2 to the 13th. */
        static int wholeRoot(int square) {
            int root = 0;
            for (int bit = 12; bit >= 0; bit--) {
                int next = root + (1 << bit);
                if (next * next <= square) {
                    root = next;
                }
            }
            return root;
        }

        boolean isShapedAs(Wheel other) {
            return spokes == other.spokes && radius == other.radius && stand == other.stand;
        }

        boolean hasPlace(int place) {
            return place >= 0 && place < placeCount && place < places.length;
        }

        int pieceAt(int place) {
            return hasPlace(place) ? places[place] : NONE;
        }

        boolean isTaken(int place) {
            return hasPlace(place) && places[place] != NONE;
        }

        void lay(int place, int piece) {
            if (hasPlace(place)) {
                places[place] = piece;
            }
        }

        void clear() {
            Arrays.fill(places, NONE);
        }

        /** Of the places for TYRE and STRAKES: STRAKE, for no TYRE is put to a place. */
        int sortAt(int place) {
            if (place >= rimPlace) {
                return STRAKE;
            }
            if (place >= firstDowel) {
                return DOWEL;
            }
            if (place >= firstFelloe) {
                return FELLOE;
            }
            return place == 0 ? NAVE : SPOKE;
        }

        /** Whether a PIECE FITS, but for the arcs of FELLOES, which hang on what is there. */
        boolean admits(Piece piece) {
            switch (piece.sort) {
                case NAVE: return piece.size == spokes;
                case SPOKE: return piece.size == spokeLength;
                default: return true;
            }
        }

        boolean isFull(int from, int end) {
            for (int place = from; place < end; place++) {
                if (!isTaken(place)) {
                    return false;
                }
            }
            return true;
        }

        boolean hasAllFelloes() {
            return isFull(firstFelloe, firstDowel);
        }

        boolean isFullBeforeRim() {
            return isFull(0, rimPlace);
        }

        int takenBeforeRim() {
            int taken = 0;
            for (int place = 0; place < rimPlace; place++) {
                taken += isTaken(place) ? 1 : 0;
            }
            return taken;
        }

        /** The first place for a TYRE or STRAKES, if all ahead of it are taken. */
        int firstEmptyBeforeRim() {
            for (int place = 0; place < rimPlace; place++) {
                if (!isTaken(place)) {
                    return place;
                }
            }
            return rimPlace;
        }
    }

    /** The latest PLAN that told a year, and the rows in which the next one is drafted. */
    private static final class Plan {
        final int[] chosen = new int[MOST_PLACES];
        final int[] draft = new int[MOST_PLACES];
        final int[] candidates = new int[MOST_PIECES];
        int candidateCount;

        Plan() {
            Arrays.fill(chosen, NONE);
        }

        int pieceFor(int place) {
            return place >= 0 && place < chosen.length ? chosen[place] : NONE;
        }

        /** The PLAN's year; NONE, the PLAN before it staying as it was, if there is none. */
        int make(Wheel wheel, Stock stock, Woods woods, int thisYear) {
            gather(wheel, stock);
            for (int later = 0; later <= YEARS_AHEAD; later++) {
                int year = thisYear + later;
                if (draftIn(year, wheel, stock, woods) && arcsAllow(wheel, stock)) {
                    System.arraycopy(draft, 0, chosen, 0, MOST_PLACES);
                    return year;
                }
            }
            return NONE;
        }

        /** Candidates stand in the order in which they are taken: FELLOES by their arcs, all else by numbers. */
        private void gather(Wheel wheel, Stock stock) {
            candidateCount = 0;
            for (int p = 0; p < stock.count; p++) {
                Piece piece = stock.numbered(p);
                if (piece != null && piece.isFree() && piece.isOfWood() && wheel.admits(piece)) {
                    insert(p, stock);
                }
            }
        }

        private void insert(int p, Stock stock) {
            if (candidateCount >= candidates.length) {
                return;
            }
            int spot = candidateCount;
            int rank = rankOf(p, stock);
            for (; spot > 0 && rankOf(candidates[spot - 1], stock) > rank; spot--) {
                candidates[spot] = candidates[spot - 1];
            }
            candidates[spot] = p;
            candidateCount++;
        }

        private static int rankOf(int p, Stock stock) {
            Piece piece = stock.numbered(p);
            return piece != null && piece.sort == FELLOE ? piece.size : 0;
        }

        /** False if a place stays empty. */
        private boolean draftIn(int year, Wheel wheel, Stock stock, Woods woods) {
            Arrays.fill(draft, NONE);
            int sort = NONE;
            int from = 0;
            for (int place = 0; place < wheel.rimPlace && place < draft.length; place++) {
                if (wheel.sortAt(place) != sort) {
                    sort = wheel.sortAt(place);
                    from = 0;
                }
                if (wheel.isTaken(place)) {
                    continue;
                }
                int spot = nextCandidate(from, sort, year, stock, woods);
                if (spot == NONE) {
                    return false;
                }
                draft[place] = candidates[spot];
                from = spot + 1;
            }
            return true;
        }

        private int nextCandidate(int from, int sort, int year, Stock stock, Woods woods) {
            for (int spot = from; spot >= 0 && spot < candidateCount && spot < candidates.length; spot++) {
                Piece piece = stock.numbered(candidates[spot]);
                if (piece != null && piece.sort == sort && woods.isDry(piece, year)) {
                    return spot;
                }
            }
            return NONE;
        }

        private boolean arcsAllow(Wheel wheel, Stock stock) {
            int arcs = 0;
            for (int place = wheel.firstFelloe; place < wheel.firstDowel && place < draft.length; place++) {
                int number = wheel.isTaken(place) ? wheel.pieceAt(place) : draft[place];
                Piece piece = stock.numbered(number);
                arcs += piece == null ? 0 : piece.size;
            }
            return arcs <= wheel.round;
        }
    }
}
