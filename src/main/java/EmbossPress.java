import java.util.Arrays;

/**
 * Embossing dies pressed into paper; the document (../shared/DOC.md) says what each call answers.
 *
 * <p>Every row that a call works with is made in the constructor and used again, because all calls
 * of a run share one room for what they make.
 */
public final class EmbossPress {
    public static final int NONE = -1;

    private static final int DIES = 3;
    private static final int SIDE = 5;
    private static final int POINTS = SIDE * SIDE;
    private static final int DEEPEST = 9;
    private static final int TURNS = 8;
    private static final int FIRST_MIRRORED = 4;

    private static final int WIDTH = 12;
    private static final int PLACES = WIDTH * WIDTH;
    private static final int PROPERTIES = 7;
    private static final int MOST_FOIL = 9;
    private static final int MOST_SLIP = 3;

    private static final int NOT_REFUSED = 0;
    private static final int OFF_THE_SHEET = 1;
    private static final int TOO_DEEP = 2;
    private static final int NO_DEPTH = 3;
    private static final int PRESSED = 100;
    private static final int ROW_STEP = 100;

    private static final int BEARS = 0;
    private static final int CRACK_TAKES = 1;
    private static final int DEEP_MOST = 2;
    private static final int SLIP_AFTER = 3;
    private static final int SETTINGS = 4;
    private static final int[] FIRST_VALUES = {12, 3, 9, 0};
    private static final int[] LEAST_VALUES = {0, 0, 1, 0};
    private static final int[] GREATEST_VALUES = {99, 20, 9, 9};

    private static final int FIRST_CODE = 33;
    private static final int LAST_CODE = 126;
    private static final int BUFFER_MOST = 40;
    private static final int SLOTS = 2;
    private static final int SAVED_MOST = 6;
    private static final int COUNTS = 14;

    private static final long HASH_START = 3319L;
    private static final int LOOK_X = 3;
    private static final int LOOK_Y = 4;
    private static final long EXPONENT_OF_ONE = 1023L;
    private static final int FRACTION_BITS = 52;
    private static final long FRACTION_SCALE = 1L << FRACTION_BITS;

    private final State now;
    private final State[] slots;
    private final boolean[] slotTaken;
    private final State[] saved;
    private int oldestSaved;
    private int savedCount;
    private final DieText buffer;
    /** The die of the present call, as it is turned. */
    private final int[] relief;
    /** The sheet on which the looks try what would be. */
    private final Sheet trial;
    private final CrackFinder finder;

    public EmbossPress() {
        now = new State();
        slots = new State[SLOTS];
        for (int i = 0; i < SLOTS; i++) {
            slots[i] = new State();
        }
        slotTaken = new boolean[SLOTS];
        saved = new State[SAVED_MOST];
        for (int i = 0; i < SAVED_MOST; i++) {
            saved[i] = new State();
        }
        buffer = new DieText();
        relief = new int[POINTS];
        trial = new Sheet();
        finder = new CrackFinder();
    }

    // ---- dies

    public int point(int die, int column, int row, int depth)
            throws IndexOutOfBoundsException, IllegalArgumentException {
        if (!isDie(die) || !isPoint(column, row)) {
            throw new IndexOutOfBoundsException("no such die or point");
        }
        if (depth < 0 || depth > DEEPEST) {
            throw new IllegalArgumentException("the depth is out of range");
        }
        saveState();
        int index = pointIndex(die, column, row);
        int before = now.points[index];
        now.points[index] = depth;
        return before;
    }

    public int cast(int die, int x, int y) throws IndexOutOfBoundsException {
        if (!isDie(die) || placeIndex(x, y) == NONE) {
            throw new IndexOutOfBoundsException("no such die or place");
        }
        saveState();
        for (int row = 0; row < SIDE; row++) {
            for (int column = 0; column < SIDE; column++) {
                int depth = now.paper.depthAt(x + column, y + row);
                now.points[pointIndex(die, column, row)] = Math.min(depth, DEEPEST);
            }
        }
        return now.raisedPoints(die);
    }

    // ---- the sheet

    public int sheet() {
        saveState();
        int cracked = now.paper.cracked();
        now.paper.makeNew();
        now.unslip();
        now.readyFoil = 0;
        now.sheets++;
        return cracked;
    }

    public int pin() {
        saveState();
        int before = now.slip;
        now.unslip();
        return before;
    }

    public int foil(int foil, int x, int y, int toX, int toY)
            throws IndexOutOfBoundsException, IllegalArgumentException {
        if (placeIndex(x, y) == NONE || placeIndex(toX, toY) == NONE) {
            throw new IndexOutOfBoundsException("no such place");
        }
        if (foil < 1 || foil > MOST_FOIL || toX < x || toY < y) {
            throw new IllegalArgumentException("no such foil, or no such corners");
        }
        saveState();
        now.readyFoil = foil;
        now.readyLeft = x;
        now.readyTop = y;
        now.readyRight = toX;
        now.readyBottom = toY;
        return (toX - x + 1) * (toY - y + 1);
    }

    public int press(int die, int x, int y, int turn)
            throws IndexOutOfBoundsException, IllegalArgumentException {
        if (!isDie(die)) {
            throw new IndexOutOfBoundsException("no such die");
        }
        if (!isTurn(turn)) {
            throw new IllegalArgumentException("no such turn");
        }
        saveState();
        now.turnDie(die, turn, relief);
        int reason = refusal(x, y);
        if (reason != NOT_REFUSED) {
            now.refusals++;
            return reason;
        }
        return PRESSED + pressRelief(x, y);
    }

    public int fold(int row) throws IndexOutOfBoundsException {
        if (!isFoldRow(row)) {
            throw new IndexOutOfBoundsException("no such row to fold at");
        }
        saveState();
        int bears = now.settings[BEARS];
        int crackTakes = now.settings[CRACK_TAKES];
        int cracks = finder.crackAtFold(now.paper, row, bears, crackTakes);
        cracks += finder.crackAll(now.paper, bears, crackTakes);
        now.cracksSoFar += cracks;
        now.folds++;
        return cracks;
    }

    public int set(int setting, int value) throws IndexOutOfBoundsException, IllegalArgumentException {
        if (!isSetting(setting)) {
            throw new IndexOutOfBoundsException("no such setting");
        }
        if (value < LEAST_VALUES[setting] || value > GREATEST_VALUES[setting]) {
            throw new IllegalArgumentException("the value is out of range");
        }
        saveState();
        int before = now.settings[setting];
        now.settings[setting] = value;
        return before;
    }

    // ---- texts, snapshots

    public int append(int code) throws IllegalArgumentException, IllegalStateException {
        if (code < FIRST_CODE || code > LAST_CODE) {
            throw new IllegalArgumentException("no such character");
        }
        if (buffer.isFull()) {
            throw new IllegalStateException("the buffer is full");
        }
        buffer.add(code);
        return buffer.length;
    }

    public int clearBuffer() {
        int before = buffer.length;
        buffer.length = 0;
        return before;
    }

    public int firstError() {
        return buffer.firstWrong();
    }

    public int load(int die) throws IndexOutOfBoundsException, IllegalArgumentException {
        if (!isDie(die)) {
            throw new IndexOutOfBoundsException("no such die");
        }
        if (!buffer.tellsDie()) {
            throw new IllegalArgumentException("the buffer does not tell a die");
        }
        saveState();
        buffer.readInto(now, die);
        buffer.length = 0;
        return now.raisedPoints(die);
    }

    public int keep(int slot) throws IllegalArgumentException {
        if (!isSlot(slot)) {
            throw new IllegalArgumentException("no such slot");
        }
        slots[slot].copyFrom(now);
        slotTaken[slot] = true;
        return now.presses;
    }

    public int goBack(int slot) throws IllegalArgumentException, IllegalStateException {
        if (!isSlot(slot)) {
            throw new IllegalArgumentException("no such slot");
        }
        if (!slotTaken[slot]) {
            throw new IllegalStateException("no snapshot in this slot");
        }
        saveState();
        now.copyFrom(slots[slot]);
        return now.presses;
    }

    public int undo() throws IllegalStateException {
        if (savedCount == 0) {
            throw new IllegalStateException("no saved state");
        }
        savedCount--;
        now.copyFrom(saved[(oldestSaved + savedCount) % SAVED_MOST]);
        return savedCount;
    }

    // ---- looks; nothing is changed

    public int dieOf(int die, int column, int row, int turn)
            throws IndexOutOfBoundsException, IllegalArgumentException {
        if (!isDie(die) || !isPoint(column, row)) {
            throw new IndexOutOfBoundsException("no such die or point");
        }
        if (!isTurn(turn)) {
            throw new IllegalArgumentException("no such turn");
        }
        return now.turnedPoint(die, column, row, turn);
    }

    public int place(int x, int y, int what) throws IndexOutOfBoundsException, IllegalArgumentException {
        int place = placeIndex(x, y);
        if (place == NONE) {
            throw new IndexOutOfBoundsException("no such place");
        }
        if (what < 0 || what >= PROPERTIES) {
            throw new IllegalArgumentException("no such property");
        }
        return propertyOf(place, what);
    }

    public int count(int what) throws IllegalArgumentException {
        if (what < 0 || what >= COUNTS) {
            throw new IllegalArgumentException("no such number");
        }
        return numberOf(what);
    }

    public int setting(int setting) throws IndexOutOfBoundsException {
        if (!isSetting(setting)) {
            throw new IndexOutOfBoundsException("no such setting");
        }
        return now.settings[setting];
    }

    // ---- what would be; nothing is changed

    public int ifPressed(int die, int x, int y, int turn)
            throws IndexOutOfBoundsException, IllegalArgumentException {
        if (!isDie(die)) {
            throw new IndexOutOfBoundsException("no such die");
        }
        if (!isTurn(turn)) {
            throw new IllegalArgumentException("no such turn");
        }
        return answerOfPress(die, x, y, turn);
    }

    public int gentlest(int die, int turn) throws IndexOutOfBoundsException, IllegalArgumentException {
        if (!isDie(die)) {
            throw new IndexOutOfBoundsException("no such die");
        }
        if (!isTurn(turn)) {
            throw new IllegalArgumentException("no such turn");
        }
        return leastHarm(die, turn);
    }

    public int ifFolded(int row) throws IndexOutOfBoundsException {
        if (!isFoldRow(row)) {
            throw new IndexOutOfBoundsException("no such row to fold at");
        }
        return cracksOfFold(row);
    }

    public int bestFold() {
        int best = 1;
        int fewest = cracksOfFold(1);
        for (int row = 2; row < WIDTH; row++) {
            int cracks = cracksOfFold(row);
            if (cracks < fewest) {
                fewest = cracks;
                best = row;
            }
        }
        return best;
    }

    public int alike(int one, int other) throws IndexOutOfBoundsException {
        if (!isDie(one) || !isDie(other)) {
            throw new IndexOutOfBoundsException("no such die");
        }
        return leastTurnTo(one, other);
    }

    public int needed(int die, int x, int y, int turn)
            throws IndexOutOfBoundsException, IllegalArgumentException {
        if (!isDie(die)) {
            throw new IndexOutOfBoundsException("no such die");
        }
        if (!isTurn(turn)) {
            throw new IllegalArgumentException("no such turn");
        }
        return leastBearing(die, x, y, turn);
    }

    public double wholeShare() {
        return (double) (PLACES - now.paper.cracked()) / PLACES;
    }

    public long digest() {
        long hash = mixNumbers(HASH_START);
        hash = mixDies(hash);
        hash = mixPlaces(hash);
        hash = mixLooks(hash);
        hash = mix(hash, bitsOfShare(wholeShare()));
        return mixSlotsAndBuffer(hash);
    }

    // ---- arguments

    private static boolean isDie(int die) {
        return die >= 0 && die < DIES;
    }

    private static boolean isPoint(int column, int row) {
        return column >= 0 && column < SIDE && row >= 0 && row < SIDE;
    }

    private static boolean isTurn(int turn) {
        return turn >= 0 && turn < TURNS;
    }

    private static boolean isFoldRow(int row) {
        return row >= 1 && row < WIDTH;
    }

    private static boolean isSetting(int setting) {
        return setting >= 0 && setting < SETTINGS;
    }

    private static boolean isSlot(int slot) {
        return slot >= 0 && slot < SLOTS;
    }

    private static int pointIndex(int die, int column, int row) {
        return die * POINTS + row * SIDE + column;
    }

    /** The index of a place, NONE off the sheet; long, because a press may be at any int and slip. */
    private static int placeIndex(long column, long row) {
        if (column < 0 || column >= WIDTH || row < 0 || row >= WIDTH) {
            return NONE;
        }
        return (int) (row * WIDTH + column);
    }

    // ---- states

    private void saveState() {
        if (savedCount == SAVED_MOST) {
            oldestSaved = (oldestSaved + 1) % SAVED_MOST;
            savedCount--;
        }
        saved[(oldestSaved + savedCount) % SAVED_MOST].copyFrom(now);
        savedCount++;
    }

    // ---- presses and folds

    private int refusal(int x, int y) {
        long left = (long) x + now.slip;
        int deepest = 0;
        for (int i = 0; i < POINTS; i++) {
            if (relief[i] > 0 && placeUnder(i, left, y) == NONE) {
                return OFF_THE_SHEET;
            }
            deepest = Math.max(deepest, relief[i]);
        }
        if (deepest > now.settings[DEEP_MOST]) {
            return TOO_DEEP;
        }
        return deepest == 0 ? NO_DEPTH : NOT_REFUSED;
    }

    private static int placeUnder(int point, long left, long top) {
        return placeIndex(left + point % SIDE, top + point / SIDE);
    }

    private int pressRelief(int x, int y) {
        long left = (long) x + now.slip;
        now.paper.emboss(relief, left, y);
        now.stickFoil(relief, left, y);
        int cracks = finder.crackAll(now.paper, now.settings[BEARS], now.settings[CRACK_TAKES]);
        now.cracksSoFar += cracks;
        now.presses++;
        now.pressesSincePin++;
        now.slipIfDue();
        return cracks;
    }

    private int answerOfPress(int die, int x, int y, int turn) {
        now.turnDie(die, turn, relief);
        int reason = refusal(x, y);
        return reason == NOT_REFUSED ? PRESSED + cracksOfRelief(x, y) : reason;
    }

    private int cracksOfRelief(int x, int y) {
        trial.copyStrength(now.paper);
        trial.emboss(relief, (long) x + now.slip, y);
        return finder.crackAll(trial, now.settings[BEARS], now.settings[CRACK_TAKES]);
    }

    private int leastHarm(int die, int turn) {
        now.turnDie(die, turn, relief);
        int best = NONE;
        int fewest = PLACES + 1;
        for (int y = 0; y < WIDTH && fewest > 0; y++) {
            for (int x = 0; x < WIDTH && fewest > 0; x++) {
                if (refusal(x, y) != NOT_REFUSED) {
                    continue;
                }
                int cracks = cracksOfRelief(x, y);
                if (cracks < fewest) {
                    fewest = cracks;
                    best = ROW_STEP * y + x;
                }
            }
        }
        return best;
    }

    private int leastBearing(int die, int x, int y, int turn) {
        now.turnDie(die, turn, relief);
        if (refusal(x, y) != NOT_REFUSED) {
            return NONE;
        }
        trial.copyStrength(now.paper);
        trial.emboss(relief, (long) x + now.slip, y);
        int least = trial.leastBearing(now.settings[CRACK_TAKES]);
        return least > GREATEST_VALUES[BEARS] ? NONE : least;
    }

    private int cracksOfFold(int row) {
        trial.copyStrength(now.paper);
        int bears = now.settings[BEARS];
        int crackTakes = now.settings[CRACK_TAKES];
        int cracks = finder.crackAtFold(trial, row, bears, crackTakes);
        return cracks + finder.crackAll(trial, bears, crackTakes);
    }

    private int leastTurnTo(int one, int other) {
        for (int turn = 0; turn < TURNS; turn++) {
            if (isTurnedTo(one, turn, other)) {
                return turn;
            }
        }
        return NONE;
    }

    private boolean isTurnedTo(int one, int turn, int other) {
        for (int row = 0; row < SIDE; row++) {
            for (int column = 0; column < SIDE; column++) {
                if (now.turnedPoint(one, column, row, turn) != now.turnedPoint(other, column, row, 0)) {
                    return false;
                }
            }
        }
        return true;
    }

    // ---- looks

    private int propertyOf(int place, int what) {
        Sheet paper = now.paper;
        switch (what) {
            case 0:
                return paper.depths[place];
            case 1:
                return paper.foils[place];
            case 2:
                return paper.cracks[place];
            case 3:
                return paper.strainOf(place);
            case 4:
                return paper.bearingOf(place, now.settings[BEARS], now.settings[CRACK_TAKES]);
            case 5:
                return now.isFoilReadyOver(place) ? 1 : 0;
            default:
                return paper.pressings[place];
        }
    }

    private int numberOf(int what) {
        switch (what) {
            case 0:
                return now.presses;
            case 1:
                return now.pressesSincePin;
            case 2:
                return now.slip;
            case 3:
                return now.refusals;
            case 4:
                return now.paper.cracked();
            case 5:
                return now.paper.greatestDepth();
            case 6:
                return now.paper.strainByPlaces();
            case 7:
                return now.paper.strainByPairs();
            case 8:
                return now.paper.foiled();
            case 9:
                return now.readyFoil;
            case 10:
                return now.cracksSoFar;
            case 11:
                return now.sheets;
            case 12:
                return now.folds;
            default:
                return savedCount;
        }
    }

    // ---- the digest

    private static long mix(long hash, long value) {
        return 31L * hash + value;
    }

    private long mixNumbers(long start) {
        long hash = start;
        for (int what = 0; what < COUNTS; what++) {
            hash = mix(hash, numberOf(what));
        }
        for (int i = 0; i < SETTINGS; i++) {
            hash = mix(hash, now.settings[i]);
        }
        return hash;
    }

    private long mixDies(long start) {
        long hash = start;
        for (int i = 0; i < DIES * POINTS; i++) {
            hash = mix(hash, now.points[i]);
        }
        return hash;
    }

    private long mixPlaces(long start) {
        long hash = start;
        for (int place = 0; place < PLACES; place++) {
            for (int what = 0; what < PROPERTIES; what++) {
                hash = mix(hash, propertyOf(place, what));
            }
        }
        return hash;
    }

    private long mixLooks(long start) {
        long hash = start;
        for (int die = 0; die < DIES; die++) {
            hash = mix(hash, answerOfPress(die, LOOK_X, LOOK_Y, 0));
            hash = mix(hash, leastHarm(die, 0));
            hash = mix(hash, leastTurnTo(die, 0));
            hash = mix(hash, leastBearing(die, LOOK_X, LOOK_Y, 0));
        }
        for (int row = 1; row < WIDTH; row++) {
            hash = mix(hash, cracksOfFold(row));
        }
        return mix(hash, bestFold());
    }

    private long mixSlotsAndBuffer(long start) {
        long hash = start;
        for (int slot = 0; slot < SLOTS; slot++) {
            hash = mix(hash, slotTaken[slot] ? 1 : 0);
        }
        hash = mix(hash, buffer.length);
        for (int i = 0; i < buffer.length && i < BUFFER_MOST; i++) {
            hash = mix(hash, buffer.codes[i]);
        }
        return hash;
    }

    /**
     * What Double.doubleToLongBits tells of a share from 0 to 1: worked out here, because the
     * library that the program may use does not hold it. Doubling is exact, so no bit is lost.
     */
    private static long bitsOfShare(double share) {
        if (share <= 0.0) {
            return 0L;
        }
        double scaled = share;
        long exponent = EXPONENT_OF_ONE;
        while (scaled < 1.0 && exponent > 0L) {
            scaled = scaled * 2.0;
            exponent--;
        }
        return (exponent << FRACTION_BITS) + (long) ((scaled - 1.0) * (double) FRACTION_SCALE);
    }

    /** The places of a sheet, row by row. */
    private static final class Sheet {
        final int[] depths = new int[PLACES];
        final int[] foils = new int[PLACES];
        /** 1 for a place that has cracked, otherwise 0. */
        final int[] cracks = new int[PLACES];
        final int[] pressings = new int[PLACES];

        void makeNew() {
            Arrays.fill(depths, 0);
            Arrays.fill(foils, 0);
            Arrays.fill(cracks, 0);
            Arrays.fill(pressings, 0);
        }

        void copyFrom(Sheet other) {
            copyStrength(other);
            System.arraycopy(other.foils, 0, foils, 0, PLACES);
            System.arraycopy(other.pressings, 0, pressings, 0, PLACES);
        }

        /** Copies what cracks depend on, and no more: a trial needs no foils. */
        void copyStrength(Sheet other) {
            System.arraycopy(other.depths, 0, depths, 0, PLACES);
            System.arraycopy(other.cracks, 0, cracks, 0, PLACES);
        }

        int depthAt(int column, int row) {
            int place = placeIndex(column, row);
            return place == NONE ? 0 : depths[place];
        }

        void emboss(int[] relief, long left, long top) {
            for (int i = 0; i < POINTS; i++) {
                int place = placeUnder(i, left, top);
                if (relief[i] > 0 && place != NONE) {
                    depths[place] = Math.max(depths[place], relief[i]);
                    pressings[place]++;
                }
            }
        }

        int strainOf(int place) {
            int column = place % WIDTH;
            int strain = 0;
            if (column > 0) {
                strain += difference(place, place - 1);
            }
            if (column < WIDTH - 1) {
                strain += difference(place, place + 1);
            }
            if (place >= WIDTH) {
                strain += difference(place, place - WIDTH);
            }
            if (place < PLACES - WIDTH) {
                strain += difference(place, place + WIDTH);
            }
            return strain;
        }

        int difference(int one, int other) {
            int apart = depths[one] - depths[other];
            return apart < 0 ? -apart : apart;
        }

        int crackedBeside(int place) {
            int column = place % WIDTH;
            int beside = 0;
            if (column > 0) {
                beside += cracks[place - 1];
            }
            if (column < WIDTH - 1) {
                beside += cracks[place + 1];
            }
            if (place >= WIDTH) {
                beside += cracks[place - WIDTH];
            }
            if (place < PLACES - WIDTH) {
                beside += cracks[place + WIDTH];
            }
            return beside;
        }

        int bearingOf(int place, int bears, int crackTakes) {
            return Math.max(0, bears - crackTakes * crackedBeside(place));
        }

        /** The least strength with which no place would crack; it may be above what can be set. */
        int leastBearing(int crackTakes) {
            int least = 0;
            for (int place = 0; place < PLACES; place++) {
                int strain = strainOf(place);
                // An unstrained place holds with any paper, since none bears less than 0.
                if (cracks[place] == 0 && strain > 0) {
                    least = Math.max(least, strain + crackTakes * crackedBeside(place));
                }
            }
            return least;
        }

        int cracked() {
            int found = 0;
            for (int place = 0; place < PLACES; place++) {
                found += cracks[place];
            }
            return found;
        }

        int foiled() {
            int found = 0;
            for (int place = 0; place < PLACES; place++) {
                if (foils[place] != 0) {
                    found++;
                }
            }
            return found;
        }

        int greatestDepth() {
            int greatest = 0;
            for (int place = 0; place < PLACES; place++) {
                greatest = Math.max(greatest, depths[place]);
            }
            return greatest;
        }

        int strainByPlaces() {
            int sum = 0;
            for (int place = 0; place < PLACES; place++) {
                sum += strainOf(place);
            }
            return sum;
        }

        int strainByPairs() {
            int sum = 0;
            for (int place = 0; place < PLACES; place++) {
                if (place % WIDTH < WIDTH - 1) {
                    sum += difference(place, place + 1);
                }
                if (place < PLACES - WIDTH) {
                    sum += difference(place, place + WIDTH);
                }
            }
            return 2 * sum;
        }
    }

    /** Cracks the places of a sheet; the rows for that are made once. */
    private static final class CrackFinder {
        /** Cracks change no depth, so strains are measured once for all rounds. */
        final int[] strains = new int[PLACES];
        /** How many neighbours of each place have cracked; crackAll counts them anew, then keeps up. */
        final int[] beside = new int[PLACES];
        /** The places that crack together: all are found before the first one cracks. */
        final int[] breaking = new int[PLACES];
        int breakingCount;

        int crackAll(Sheet paper, int bears, int crackTakes) {
            for (int place = 0; place < PLACES; place++) {
                strains[place] = paper.strainOf(place);
                beside[place] = paper.crackedBeside(place);
            }
            int cracks = 0;
            // Each round but the last one cracks a place, so there is never a round too few.
            for (int round = 0; round <= PLACES; round++) {
                findOverstrained(paper, bears, crackTakes);
                if (breakingCount == 0) {
                    break;
                }
                cracks += crackFound(paper);
            }
            return cracks;
        }

        /** Cracks what the fold itself cracks, not what cracks in its wake. */
        int crackAtFold(Sheet paper, int row, int bears, int crackTakes) {
            breakingCount = 0;
            for (int column = 0; column < WIDTH; column++) {
                int lower = placeIndex(column, row);
                int upper = placeIndex(column, row - 1);
                if (lower == NONE || upper == NONE) {
                    continue;
                }
                int step = paper.difference(lower, upper);
                if (step > paper.bearingOf(upper, bears, crackTakes) / 2) {
                    noteIfWhole(paper, upper);
                }
                if (step > paper.bearingOf(lower, bears, crackTakes) / 2) {
                    noteIfWhole(paper, lower);
                }
            }
            return crackFound(paper);
        }

        private void findOverstrained(Sheet paper, int bears, int crackTakes) {
            breakingCount = 0;
            for (int place = 0; place < PLACES; place++) {
                // No place bears less than 0, so an unstrained one never cracks.
                if (strains[place] > 0 && strains[place] > bears - crackTakes * beside[place]) {
                    noteIfWhole(paper, place);
                }
            }
        }

        private void noteIfWhole(Sheet paper, int place) {
            if (paper.cracks[place] == 0 && breakingCount < PLACES) {
                breaking[breakingCount] = place;
                breakingCount++;
            }
        }

        private int crackFound(Sheet paper) {
            for (int i = 0; i < breakingCount && i < PLACES; i++) {
                paper.cracks[breaking[i]] = 1;
                weakenBeside(breaking[i]);
            }
            return breakingCount;
        }

        private void weakenBeside(int place) {
            int column = place % WIDTH;
            if (column > 0) {
                beside[place - 1]++;
            }
            if (column < WIDTH - 1) {
                beside[place + 1]++;
            }
            if (place >= WIDTH) {
                beside[place - WIDTH]++;
            }
            if (place < PLACES - WIDTH) {
                beside[place + WIDTH]++;
            }
        }
    }

    /** All that a snapshot and a saved state hold. */
    private static final class State {
        final int[] points = new int[DIES * POINTS];
        final int[] settings = FIRST_VALUES.clone();
        final Sheet paper = new Sheet();
        int slip;
        int presses;
        int pressesSincePin;
        int refusals;
        int cracksSoFar;
        int sheets = 1;
        int folds;
        /** The foil that lies ready, 0 without one; then its corners tell nothing. */
        int readyFoil;
        int readyLeft;
        int readyTop;
        int readyRight;
        int readyBottom;

        void copyFrom(State other) {
            System.arraycopy(other.points, 0, points, 0, DIES * POINTS);
            System.arraycopy(other.settings, 0, settings, 0, SETTINGS);
            paper.copyFrom(other.paper);
            slip = other.slip;
            presses = other.presses;
            pressesSincePin = other.pressesSincePin;
            refusals = other.refusals;
            cracksSoFar = other.cracksSoFar;
            sheets = other.sheets;
            folds = other.folds;
            readyFoil = other.readyFoil;
            readyLeft = other.readyLeft;
            readyTop = other.readyTop;
            readyRight = other.readyRight;
            readyBottom = other.readyBottom;
        }

        /** Goes back from where a point of the turned die is to where it came from. */
        int turnedPoint(int die, int column, int row, int turn) {
            int fromColumn = column;
            int fromRow = row;
            for (int quarter = 0; quarter < turn % FIRST_MIRRORED; quarter++) {
                int rowBefore = SIDE - 1 - fromColumn;
                fromColumn = fromRow;
                fromRow = rowBefore;
            }
            if (turn >= FIRST_MIRRORED) {
                fromColumn = SIDE - 1 - fromColumn;
            }
            return points[pointIndex(die, fromColumn, fromRow)];
        }

        void turnDie(int die, int turn, int[] relief) {
            for (int row = 0; row < SIDE; row++) {
                for (int column = 0; column < SIDE; column++) {
                    relief[row * SIDE + column] = turnedPoint(die, column, row, turn);
                }
            }
        }

        int raisedPoints(int die) {
            int found = 0;
            for (int i = 0; i < POINTS; i++) {
                if (points[die * POINTS + i] > 0) {
                    found++;
                }
            }
            return found;
        }

        boolean isFoilReadyOver(int place) {
            int column = place % WIDTH;
            int row = place / WIDTH;
            return readyFoil != 0 && column >= readyLeft && column <= readyRight
                    && row >= readyTop && row <= readyBottom;
        }

        void stickFoil(int[] relief, long left, long top) {
            for (int i = 0; i < POINTS; i++) {
                int place = placeUnder(i, left, top);
                if (relief[i] > 0 && place != NONE && isFoilReadyOver(place)) {
                    paper.foils[place] = readyFoil;
                }
            }
            readyFoil = 0;
        }

        void slipIfDue() {
            int every = settings[SLIP_AFTER];
            if (every > 0 && pressesSincePin % every == 0) {
                slip = Math.min(slip + 1, MOST_SLIP);
            }
        }

        void unslip() {
            slip = 0;
            pressesSincePin = 0;
        }
    }

    /** The buffer, read as the text of a die. */
    private static final class DieText {
        final int[] codes = new int[BUFFER_MOST];
        int length;

        boolean isFull() {
            return length >= BUFFER_MOST;
        }

        void add(int code) {
            if (length < BUFFER_MOST) {
                codes[length] = code;
                length++;
            }
        }

        int firstWrong() {
            int row = 0;
            int column = 0;
            for (int i = 0; i < length && i < BUFFER_MOST; i++) {
                if (codes[i] == '/') {
                    if (column == 0 || row == SIDE - 1) {
                        return i;
                    }
                    row++;
                    column = 0;
                } else {
                    if (!isSign(codes[i]) || column == SIDE) {
                        return i;
                    }
                    column++;
                }
            }
            return length;
        }

        boolean tellsDie() {
            return length > 0 && length <= BUFFER_MOST && firstWrong() == length
                    && codes[length - 1] != '/';
        }

        /** Only for a buffer that tells a die; what a row or a die leaves out is 0. */
        void readInto(State state, int die) {
            Arrays.fill(state.points, die * POINTS, (die + 1) * POINTS, 0);
            int row = 0;
            int column = 0;
            for (int i = 0; i < length && i < BUFFER_MOST; i++) {
                if (codes[i] == '/') {
                    row++;
                    column = 0;
                } else if (isPoint(column, row)) {
                    state.points[pointIndex(die, column, row)] = depthOfSign(codes[i]);
                    column++;
                }
            }
        }

        private static boolean isSign(int code) {
            return code == '.' || (code >= '0' && code <= '9');
        }

        private static int depthOfSign(int code) {
            return code == '.' ? 0 : code - '0';
        }
    }
}
