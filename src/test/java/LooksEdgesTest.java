/**
 * The edges that the document's promises 17 to 28 name: the looks, and what would be. Each sentence
 * has a test of its own, which fails if just that sentence is broken.
 */
public final class LooksEdgesTest {
    private static final int MAX = Integer.MAX_VALUE;
    private static final int MIN = Integer.MIN_VALUE;
    private static final int NONE = EmbossPress.NONE;

    public static void main(String[] args) {
        looks();
        whatWouldBe();
        folds();
        aloneAndTogether();
        Check.end();
    }

    private static void looks() {
        Check.sentence("Returns a point of a die, as it is turned.", LooksEdgesTest::turnedPoint);
        Check.sentence("Throws `IndexOutOfBoundsException` if there is no such die or point", LooksEdgesTest::noSuchPoint);
        Check.sentence("0: its depth; 1: its foil; 2: 1 if it has cracked, otherwise 0; 3: its strain; 4: what it bears; "
                + "5: 1 if foil lies ready over it, otherwise 0; 6: how often it was pressed so far on this sheet "
                + "(by points with a depth above 0)", LooksEdgesTest::properties);
        Check.sentence("Throws `IndexOutOfBoundsException` if there is no such place", LooksEdgesTest::noSuchPlace);
        Check.sentence("Throws `IllegalArgumentException` if what is not 0 to 6", LooksEdgesTest::noSuchProperty);
        Check.sentence("0: presses so far; 1: presses since the sheet was pinned; 2: the slip; 3: presses refused so far; "
                + "4: places that have cracked; 5: the greatest depth;", LooksEdgesTest::countsOfPresses);
        Check.sentence("6: the strain of all places together, told by places; 7: the same, told by pairs of neighbours; "
                + "8: places with foil; 9: the foil that lies ready, 0 without one; 10: cracks so far (on all sheets); "
                + "11: sheets so far, with this one; 12: folds so far; 13: saved states", LooksEdgesTest::countsOfSheets);
        Check.sentence("Throws `IllegalArgumentException` if what is not 0 to 13", LooksEdgesTest::noSuchCount);
        Check.sentence("Throws `IndexOutOfBoundsException` if there is no such setting", LooksEdgesTest::noSuchSetting);
        Check.sentence("---- looks; nothing is changed.", LooksEdgesTest::looksChangeNothing);
    }

    private static void whatWouldBe() {
        Check.sentence("Returns what press() would return.", LooksEdgesTest::whatPressWouldReturn);
        Check.sentence("Throws `IndexOutOfBoundsException` if there is no such die", LooksEdgesTest::noSuchDie);
        Check.sentence("Throws `IllegalArgumentException` if turn is out of range", LooksEdgesTest::noSuchTurn);
        Check.sentence("Returns of the places of the sheet, as (x, y) of a press that would not be refused",
                LooksEdgesTest::gentlestOfTheSheet);
        Check.sentence("the one with which the fewest places would crack, of several the one with the least row, then the least column: "
                + "100 times the row, and the column", LooksEdgesTest::gentlestOfSeveral);
        Check.sentence("NONE if all would be refused.", LooksEdgesTest::gentlestRefused);
        Check.sentence("Returns the least setting 0, 0 to 99, with which this press would crack nothing, if setting 0 was that",
                LooksEdgesTest::leastSetting);
        Check.sentence("NONE if there is none, or the press would be refused.", LooksEdgesTest::neededNone);
        Check.sentence("---- what would be; nothing is changed.", LooksEdgesTest::whatWouldBeChangesNothing);
    }

    private static void folds() {
        Check.sentence("Tells what a fold would crack.", LooksEdgesTest::whatFoldWouldCrack);
        Check.sentence("- `row`: 1 to 11", LooksEdgesTest::foldRows);
        Check.sentence("Throws `IndexOutOfBoundsException` if there is no such row", LooksEdgesTest::noSuchRow);
        Check.sentence("Returns the row ahead of which a fold would crack the fewest places, of several the least.",
                LooksEdgesTest::bestOfRows);
    }

    private static void aloneAndTogether() {
        Check.sentence("Returns the least turn by which the one is as the other one is (with turn 0); NONE if there is none.",
                LooksEdgesTest::leastTurn);
        Check.sentence("Throws `IndexOutOfBoundsException` if there is no such die", LooksEdgesTest::alikeOfNoDie);
        Check.sentence("Returns the places that have not cracked, as a double, divided by 144.", LooksEdgesTest::shares);
        Check.sentence("The hash starts at 3319. For each value v of the following list, in order, the hash becomes 31 * hash + v, "
                + "in long arithmetic with overflow.", LooksEdgesTest::hashes);
        Check.sentence("for each slot 1 if it has a snapshot, otherwise 0; the length of the buffer and each of its character codes",
                LooksEdgesTest::endOfTheHash);
    }

    // ---- looks

    private static void turnedPoint() {
        EmbossPress p = new EmbossPress();
        Check.loadText(p, 2, "1...2/...../...../...../3...4");
        String[] corners = {"1234", "3142", "4321", "2413", "2143", "4231", "3412", "1324"};
        for (int turn = 0; turn < 8; turn++) {
            StringBuilder got = new StringBuilder();
            got.append(p.dieOf(2, 0, 0, turn)).append(p.dieOf(2, 4, 0, turn));
            got.append(p.dieOf(2, 0, 4, turn)).append(p.dieOf(2, 4, 4, turn));
            Check.dueOutcome("corners by turn " + turn, got.toString(), corners[turn]);
            Check.due("the middle", p.dieOf(2, 2, 2, turn), 0);
        }
        Check.dueIllegal(p, "turn 8", () -> p.dieOf(2, 0, 0, 8));
        Check.dueIllegal(p, "turn -1", () -> p.dieOf(2, 0, 0, -1));
        Check.dueIllegal(p, "far turn", () -> p.dieOf(2, 0, 0, MIN));
    }

    private static void noSuchPoint() {
        EmbossPress p = new EmbossPress();
        for (int no : new int[] {-1, 3, MAX, MIN}) {
            Check.dueOutOfBounds(p, "die " + no, () -> p.dieOf(no, 0, 0, 0));
        }
        for (int no : new int[] {-1, 5, MAX, MIN}) {
            Check.dueOutOfBounds(p, "column " + no, () -> p.dieOf(1, no, 1, 0));
            Check.dueOutOfBounds(p, "row " + no, () -> p.dieOf(1, 1, no, 0));
            Check.dueOutOfBounds(p, "column " + no + " turned", () -> p.dieOf(1, no, 1, 1));
            Check.dueOutOfBounds(p, "row " + no + " mirrored", () -> p.dieOf(1, 1, no, 4));
        }
    }

    private static void dueProperties(EmbossPress p, int x, int y, int... due) {
        for (int what = 0; what < 7; what++) {
            Check.due("property " + what + " of " + x + " " + y, p.place(x, y, what), due[what]);
        }
    }

    private static void properties() {
        EmbossPress p = new EmbossPress();
        p.foil(9, 11, 11, 11, 11);
        Check.pressPoint(p, 11, 11, 9);
        Check.loadText(p, 0, "1");
        p.press(0, 11, 11, 0);
        p.foil(1, 0, 0, 10, 11);
        dueProperties(p, 11, 11, 9, 9, 1, 18, 12, 0, 2);
        dueProperties(p, 10, 11, 0, 0, 0, 9, 9, 1, 0);
        dueProperties(p, 11, 10, 0, 0, 0, 9, 9, 0, 0);
        dueProperties(p, 0, 0, 0, 0, 0, 0, 12, 1, 0);
        p.sheet();
        dueProperties(p, 11, 11, 0, 0, 0, 0, 12, 0, 0);
        Check.loadText(p, 0, ".1");
        p.press(0, 10, 11, 0);
        dueProperties(p, 11, 11, 1, 0, 0, 2, 12, 0, 1);
        dueProperties(p, 10, 11, 0, 0, 0, 1, 12, 0, 0);
    }

    private static void noSuchPlace() {
        EmbossPress p = new EmbossPress();
        for (int no : new int[] {-1, 12, MAX, MIN}) {
            Check.dueOutOfBounds(p, "x " + no, () -> p.place(no, 5, 0));
            Check.dueOutOfBounds(p, "y " + no, () -> p.place(5, no, 0));
        }
        // These wrap to places that there are if column and row are put into one number first.
        Check.dueOutOfBounds(p, "ahead of the second row", () -> p.place(-1, 1, 0));
        Check.dueOutOfBounds(p, "behind the first row", () -> p.place(12, 0, 0));
        Check.dueOutOfBounds(p, "a row that wraps", () -> p.place(0, 357913942, 0));
    }

    private static void noSuchProperty() {
        EmbossPress p = new EmbossPress();
        for (int no : new int[] {-1, 7, MAX, MIN}) {
            Check.dueIllegal(p, "what " + no, () -> p.place(0, 0, no));
        }
    }

    private static void dueCounts(EmbossPress p, int from, int... due) {
        for (int i = 0; i < due.length; i++) {
            Check.due("count " + (from + i), p.count(from + i), due[i]);
        }
    }

    private static void countsOfPresses() {
        EmbossPress p = new EmbossPress();
        dueCounts(p, 0, 0, 0, 0, 0, 0, 0);
        p.set(3, 2);
        Check.pressPoint(p, 5, 5, 9);
        Check.pressPoint(p, 9, 9, 1);
        Check.pressPoint(p, 4, 5, 3);
        dueCounts(p, 0, 3, 3, 1, 0, 1, 9);
        p.press(1, 0, 0, 0);
        p.press(2, 11, 0, 0);
        dueCounts(p, 0, 3, 3, 1, 2, 1, 9);
        p.pin();
        dueCounts(p, 0, 3, 0, 0, 2, 1, 9);
        p.sheet();
        dueCounts(p, 0, 3, 0, 0, 2, 0, 0);
        for (int at = 0; at <= 11; at += 11) {
            EmbossPress one = new EmbossPress();
            Check.pressPoint(one, at, at, 7);
            Check.due("the greatest depth, at the place " + at, one.count(5), 7);
            Check.due("places that have cracked, at " + at, one.count(4), 1);
        }
    }

    private static void countsOfSheets() {
        EmbossPress p = new EmbossPress();
        dueCounts(p, 6, 0, 0, 0, 0, 0, 1, 0, 0);
        p.foil(9, 0, 0, 11, 11);
        Check.pressPoint(p, 11, 11, 9);
        dueCounts(p, 6, 36, 36, 1, 0, 1, 1, 0, 3);
        p.foil(2, 0, 0, 11, 11);
        p.fold(11);
        dueCounts(p, 6, 36, 36, 1, 2, 2, 1, 1, 5);
        p.sheet();
        dueCounts(p, 6, 0, 0, 0, 0, 2, 2, 1, 6);
        p.foil(1, 0, 0, 0, 0);
        Check.pressPoint(p, 0, 0, 7);
        dueCounts(p, 6, 28, 28, 1, 0, 3, 2, 1, 6);
    }

    private static void noSuchCount() {
        EmbossPress p = new EmbossPress();
        for (int no : new int[] {-1, 14, MAX, MIN}) {
            Check.dueIllegal(p, "what " + no, () -> p.count(no));
        }
    }

    private static void noSuchSetting() {
        EmbossPress p = new EmbossPress();
        for (int no : new int[] {-1, 4, MAX, MIN}) {
            Check.dueOutOfBounds(p, "setting " + no, () -> p.setting(no));
        }
        int[] first = {12, 3, 9, 0};
        for (int i = 0; i < 4; i++) {
            Check.due("setting " + i, p.setting(i), first[i]);
        }
    }

    private static EmbossPress used() {
        EmbossPress p = new EmbossPress();
        p.set(3, 2);
        p.foil(3, 4, 4, 8, 8);
        Check.pressPoint(p, 5, 5, 9);
        Check.loadText(p, 0, "123/4.5/67");
        Check.loadText(p, 1, "9.9/.9");
        Check.due("a press with cracks", p.press(0, 2, 7, 0) > 100 ? 1 : 0, 1);
        p.foil(6, 1, 1, 9, 9);
        p.keep(1);
        Check.type(p, "12/x");
        return p;
    }

    private static void looksChangeNothing() {
        EmbossPress p = used();
        long before = p.digest();
        for (int what = 0; what < 14; what++) {
            p.count(what);
            p.place(5, 5, what % 7);
            p.setting(what % 4);
            p.dieOf(what % 3, what % 5, 1, what % 8);
        }
        Check.due("all is as before", p.digest(), before);
    }

    // ---- what would be

    private static void dueIfPressed(EmbossPress p, int die, int x, int y, int turn, int due) {
        Check.due("ifPressed", p.ifPressed(die, x, y, turn), due);
        Check.due("press", p.press(die, x, y, turn), due);
    }

    private static void whatPressWouldReturn() {
        EmbossPress p = Check.sheetOf(Check.chequered('1'));
        Check.loadText(p, 2, "1");
        dueIfPressed(p, 2, 0, 0, 0, 100);
        p.set(0, 0);
        dueIfPressed(p, 2, 0, 0, 0, 244);
        dueIfPressed(p, 2, 0, 0, 0, 100);
        dueIfPressed(p, 2, 12, 0, 0, 1);
        dueIfPressed(p, 2, 0, MIN, 0, 1);
        dueIfPressed(p, 2, MAX, 0, 0, 1);
        p.point(2, 0, 0, 3);
        p.set(2, 2);
        dueIfPressed(p, 2, 11, 11, 0, 2);
        dueIfPressed(p, 2, -4, 7, 1, 2);
        dueIfPressed(p, 2, -5, 7, 1, 1);
        dueIfPressed(p, 1, 0, 0, 7, 3);
        EmbossPress slip = new EmbossPress();
        slip.set(3, 1);
        slip.point(0, 0, 0, 9);
        dueIfPressed(slip, 0, 0, 0, 0, 101);
        dueIfPressed(slip, 0, -1, 11, 0, 101);
        dueIfPressed(slip, 0, 10, 5, 0, 1);
        dueIfPressed(slip, 0, 9, 5, 0, 101);
        Check.due("over the last column, with the slip", slip.place(11, 5, 2), 1);
    }

    private static void noSuchDie() {
        EmbossPress p = new EmbossPress();
        for (int no : new int[] {-1, 3, MAX, MIN}) {
            Check.dueOutOfBounds(p, "ifPressed " + no, () -> p.ifPressed(no, 0, 0, 0));
            Check.dueOutOfBounds(p, "gentlest " + no, () -> p.gentlest(no, 0));
            Check.dueOutOfBounds(p, "needed " + no, () -> p.needed(no, 0, 0, 0));
        }
        p.point(2, 0, 0, 1);
        Check.due("ifPressed of the last die", p.ifPressed(2, 0, 0, 0), 100);
        Check.due("gentlest of the last die", p.gentlest(2, 0), 0);
        Check.due("needed of the last die", p.needed(2, 0, 0, 0), 2);
    }

    private static void noSuchTurn() {
        EmbossPress p = new EmbossPress();
        for (int no : new int[] {-1, 8, MAX, MIN}) {
            Check.dueIllegal(p, "ifPressed " + no, () -> p.ifPressed(0, 0, 0, no));
            Check.dueIllegal(p, "gentlest " + no, () -> p.gentlest(0, no));
            Check.dueIllegal(p, "needed " + no, () -> p.needed(0, 0, 0, no));
        }
        p.point(0, 1, 0, 6);
        // The point comes to (1, 0), (4, 1), (3, 4), (0, 3), (3, 0), (4, 3), (1, 4), (0, 1).
        int[] inCorner = {10, 1007, 708, 800, 8, 807, 710, 1000};
        for (int turn = 0; turn < 8; turn++) {
            Check.due("turn " + turn, p.gentlest(0, turn), inCorner[turn]);
            int x = inCorner[turn] % 100;
            int y = inCorner[turn] / 100;
            Check.due("turn " + turn, p.needed(0, x, y, turn), 12);
            Check.due("turn " + turn, p.ifPressed(0, x, y, turn), 100);
        }
    }

    /** A sheet on which only these places have cracked, each with a 9, and paper that bears 17. */
    private static EmbossPress crackedAt(int[]... places) {
        EmbossPress p = Check.strong();
        p.set(1, 0);
        for (int[] at : places) {
            Check.pressPoint(p, at[0], at[1], 9);
        }
        p.set(0, 17);
        Check.due("cracks", p.fold(places[0][1] < 6 ? 10 : 2), places.length);
        Check.loadText(p, 0, "9");
        return p;
    }

    private static void gentlestOfTheSheet() {
        int[][] places = {{11, 11}, {0, 11}, {11, 0}, {0, 0}, {5, 6}};
        for (int[] at : places) {
            // Elsewhere a 9 has a strain of 18 at the least; there it has cracked already.
            Check.due("at " + at[0] + " " + at[1], crackedAt(at).gentlest(0, 0), 100 * at[1] + at[0]);
        }
        EmbossPress p = new EmbossPress();
        Check.loadText(p, 0, "....6");
        Check.due("a press left of the sheet would be gentler", p.gentlest(0, 0), 7);
        Check.due("it would", p.ifPressed(0, -4, 0, 0), 100);
        Check.loadText(p, 0, "././././6");
        Check.due("a press above the sheet would be gentler", p.gentlest(0, 0), 700);
        Check.loadText(p, 0, "1/1/1/1/1...1");
        p.set(0, 99);
        Check.due("the first place that holds all points", p.gentlest(0, 0), 0);
        Check.loadText(p, 1, "2");
        p.set(3, 1);
        p.press(1, 5, 5, 0);
        p.set(0, 11);
        p.set(1, 0);
        Check.loadText(p, 1, "4");
        Check.due("with the slip, the other corner", p.gentlest(1, 0), 10);
        Check.due("for the corner lies outside", p.ifPressed(1, -1, 0, 0), 100);
        Check.due("and an edge cracks", p.ifPressed(1, 0, 0, 0), 101);
        Check.due("the right column is over the corner", p.ifPressed(1, 10, 0, 0), 100);
    }

    private static void gentlestOfSeveral() {
        EmbossPress p = new EmbossPress();
        Check.loadText(p, 0, "1");
        Check.due("all the same", p.gentlest(0, 0), 0);
        Check.due("the least row", crackedAt(new int[] {0, 5}, new int[] {5, 0}).gentlest(0, 0), 5);
        Check.due("then the least column", crackedAt(new int[] {9, 4}, new int[] {2, 4}).gentlest(0, 0), 402);
        Check.due("the least row, whatever column", crackedAt(new int[] {0, 9}, new int[] {11, 8}).gentlest(0, 0), 811);
        EmbossPress q = new EmbossPress();
        q.set(0, 0);
        Check.loadText(q, 0, "1");
        Check.due("inside", q.ifPressed(0, 5, 5, 0), 105);
        Check.due("edge", q.ifPressed(0, 5, 0, 0), 104);
        Check.due("corner", q.ifPressed(0, 11, 11, 0), 103);
        Check.due("of the corners, with the fewest, the first", q.gentlest(0, 0), 0);
        q.press(0, 0, 0, 0);
        Check.due("now none where it has cracked", q.gentlest(0, 0), 0);
        q.sheet();
        Check.loadText(q, 0, ".1");
        Check.due("fewest, but above 0", q.gentlest(0, 0), 10);
        EmbossPress all = Check.sheetOf(Check.chequered('5'));
        all.set(0, 0);
        Check.loadText(all, 0, "1");
        Check.due("all crack, wherever it is pressed", all.ifPressed(0, 11, 11, 0), 244);
        Check.due("then, too, the first place", all.gentlest(0, 0), 0);
    }

    private static void gentlestRefused() {
        EmbossPress p = new EmbossPress();
        for (int turn = 0; turn < 8; turn++) {
            Check.due("no depth", p.gentlest(1, turn), NONE);
        }
        p.point(0, 4, 4, 9);
        p.set(2, 8);
        Check.due("too deep", p.gentlest(0, 0), NONE);
        p.set(2, 9);
        p.set(0, 99);
        Check.due("just deep enough", p.gentlest(0, 0), 0);
        p.point(0, 0, 0, 1);
        Check.due("the whole die fits at the first place", p.gentlest(0, 0), 0);
        p.set(0, 0);
        p.set(1, 20);
        Check.due("cracks refuse nothing", p.gentlest(0, 0) >= 0 ? 1 : 0, 1);
    }

    private static void leastSetting() {
        strengthBesideCracks();
        EmbossPress p = new EmbossPress();
        for (int depth = 1; depth <= 9; depth++) {
            p.point(0, 0, 0, depth);
            Check.due("inside", p.needed(0, 5, 5, 0), 4 * depth);
            Check.due("edge", p.needed(0, 11, 5, 0), 3 * depth);
            Check.due("corner", p.needed(0, 11, 11, 0), 2 * depth);
            p.set(0, 4 * depth);
            Check.due("with it none cracks", p.ifPressed(0, 5, 5, 0), 100);
            p.set(0, 4 * depth - 1);
            Check.due("with less one cracks", p.ifPressed(0, 5, 5, 0) > 100 ? 1 : 0, 1);
        }
        String[] flat = new String[12];
        java.util.Arrays.fill(flat, "555555555555");
        EmbossPress whole = Check.sheetOf(flat);
        Check.loadText(whole, 0, "5");
        Check.due("no strain at all", whole.needed(0, 11, 11, 0), 0);
        whole.set(0, 0);
        Check.due("with 0 none cracks", whole.ifPressed(0, 11, 11, 0), 100);
        EmbossPress far = Check.strong();
        Check.pressPoint(far, 11, 11, 9);
        Check.loadText(far, 0, "1");
        Check.due("of all places, also far from the press", far.needed(0, 0, 0, 0), 18);
        far.set(0, 17);
        far.set(3, 1);
        Check.due("one cracks", far.press(0, 0, 0, 0), 101);
        Check.due("what has cracked needs no strength; those beside it have 9, and 3 for the crack",
                far.needed(0, 0, 0, 0), 12);
        Check.loadText(far, 0, "....9");
        Check.due("with the slip, in the corner", far.needed(0, 6, 0, 0), 18);
        Check.due("with the slip, in the left corner", far.needed(0, -5, 11, 0), 18);
        Check.due("with the slip, on the edge", far.needed(0, 5, 0, 0), 27);
    }

    private static void strengthBesideCracks() {
        EmbossPress p = new EmbossPress();
        p.set(0, 3);
        p.set(1, 0);
        Check.due("a point of 1", Check.pressPoint(p, 5, 5, 1), 101);
        for (int takes = 0; takes <= 20; takes++) {
            p.set(1, takes);
            Check.due("a strain of 1 beside a crack", p.needed(2, 5, 5, 0), 1 + takes);
        }
        p.set(0, 0);
        Check.due("the ones beside it crack", p.press(2, 5, 5, 0), 104);
        Check.due("no strain beside cracks needs no strength", p.needed(2, 5, 5, 0), 0);
        Check.due("as none cracks", p.ifPressed(2, 5, 5, 0), 100);
    }

    /** The place (5, 5) is whole among four places that have cracked, and has these depths beside it. */
    private static EmbossPress wholeAmongCracks(String depths) {
        EmbossPress p = new EmbossPress();
        int[][] at = {{4, 5}, {6, 5}, {5, 4}, {5, 6}};
        p.set(1, 0);
        for (int i = 0; i < 4; i++) {
            int depth = depths.charAt(i) - '0';
            int between = 0;
            for (int j = 0; j < i; j++) {
                between += depths.charAt(j) - '0';
            }
            // The middle holds that, and the new point, with its four sides, does not.
            p.set(0, Math.max(between + depth, 3 * depth));
            Check.due("a crack", Check.pressPoint(p, at[i][0], at[i][1], depth), 101);
        }
        Check.due("whole", p.place(5, 5, 2), 0);
        p.set(1, 20);
        Check.loadText(p, 0, "1");
        return p;
    }

    private static void neededNone() {
        EmbossPress p = wholeAmongCracks("4555");
        Check.due("strain", p.place(5, 5, 3), 19);
        Check.due("19, and 20 for each of four cracks", p.needed(0, 0, 0, 0), 99);
        Check.due("none with 99", withStrength(p, 99).ifPressed(0, 0, 0, 0), 100);
        Check.due("some with 98", withStrength(p, 98).ifPressed(0, 0, 0, 0), 101);
        EmbossPress q = wholeAmongCracks("4556");
        Check.due("strain", q.place(5, 5, 3), 20);
        Check.due("100 is more than there is", q.needed(0, 0, 0, 0), NONE);
        Check.due("some even with 99", withStrength(q, 99).ifPressed(0, 0, 0, 0), 101);
        EmbossPress r = new EmbossPress();
        Check.due("no depth", r.needed(0, 0, 0, 0), NONE);
        r.point(0, 0, 0, 9);
        Check.due("off the sheet", r.needed(0, 12, 0, 0), NONE);
        Check.due("off the sheet", r.needed(0, -1, 0, 0), NONE);
        Check.due("far off the sheet", r.needed(0, MAX, MIN, 0), NONE);
        Check.due("at the last place", r.needed(0, 11, 11, 0), 18);
        r.set(2, 8);
        Check.due("too deep", r.needed(0, 11, 11, 0), NONE);
    }

    private static EmbossPress withStrength(EmbossPress p, int value) {
        p.set(0, value);
        return p;
    }

    private static void whatWouldBeChangesNothing() {
        EmbossPress p = used();
        long before = p.digest();
        for (int turn = 0; turn < 8; turn++) {
            p.ifPressed(turn % 3, turn, 3, turn);
            p.gentlest(turn % 3, turn);
            p.needed(turn % 3, turn, 5, turn);
            p.ifFolded(turn + 3);
            p.bestFold();
            p.alike(turn % 3, 1);
            p.wholeShare();
        }
        Check.due("all is as before", p.digest(), before);
        Check.due("foil lies ready as before", p.place(9, 9, 5), 1);
        Check.due("and the slip", p.count(2), 1);
    }

    // ---- folds

    /** Places of row 0 have this depth, and paper bears so much, whatever has cracked. */
    private static EmbossPress upperRow(String row, int bears) {
        EmbossPress p = Check.sheetOf(row);
        p.set(1, 0);
        p.set(0, bears);
        return p;
    }

    private static void whatFoldWouldCrack() {
        EmbossPress p = upperRow("444444444444", 7);
        for (int row = 11; row >= 1; row--) {
            int told = p.ifFolded(row);
            Check.due("ahead of row " + row, told, row == 1 ? 24 : 0);
            Check.due("fold", p.fold(row), told);
        }
        EmbossPress all = Check.sheetOf(Check.chequered('1'));
        all.set(0, 0);
        Check.due("all", all.ifFolded(6), 144);
        all.fold(6);
        Check.due("none any more", all.ifFolded(6), 0);
    }

    private static void foldRows() {
        EmbossPress p = new EmbossPress();
        Check.pressPoint(p, 0, 11, 6);
        // 6 is not more than half of 12; below that it is, ahead of the last row alone.
        Check.due("ahead of row 11", p.ifFolded(11), 0);
        Check.pressPoint(p, 11, 0, 6);
        Check.due("ahead of row 1", p.ifFolded(1), 0);
        p.set(1, 0);
        p.set(0, 11);
        Check.due("both corners, and one below", p.ifFolded(1), 3);
        Check.due("both corners, and one above", p.ifFolded(11), 3);
        Check.due("both corners", p.ifFolded(2), 2);
        Check.due("both corners", p.ifFolded(10), 2);
    }

    private static void noSuchRow() {
        EmbossPress p = new EmbossPress();
        for (int no : new int[] {-1, 0, 12, MAX, MIN}) {
            Check.dueOutOfBounds(p, "row " + no, () -> p.ifFolded(no));
        }
    }

    /** Two bands of five columns, each with a depth a row; paper that bears 7, so that steps of 4 crack. */
    private static EmbossPress bands(String left, String right) {
        String[] rows = new String[12];
        for (int y = 0; y < 12; y++) {
            rows[y] = left.substring(y, y + 1).repeat(5) + right.substring(y, y + 1).repeat(5) + "..";
        }
        EmbossPress p = Check.sheetOf(rows);
        p.set(1, 0);
        p.set(0, 7);
        return p;
    }

    private static void bestOfRows() {
        Check.due("all rows the same", new EmbossPress().bestFold(), 1);
        Check.due("all but the first", upperRow("444444444444", 7).bestFold(), 2);
        Check.due("only the last row", bands("044004400444", "004400440044").bestFold(), 11);
        Check.due("only row 7", bands("044004444004", "004400440044").bestFold(), 7);
        Check.due("of all even rows the least", bands("044004400440", "000000000000").bestFold(), 2);
        EmbossPress first = bands("004400440044", "004444004400");
        Check.due("the first one", first.bestFold(), 1);
        EmbossPress cracked = bands("044004400440", "004400440044");
        int best = 1;
        for (int row = 2; row <= 11; row++) {
            best = cracked.ifFolded(row) < cracked.ifFolded(best) ? row : best;
        }
        Check.due("steps ahead of all rows", cracked.bestFold(), best);
        cracked.fold(9);
        Check.due("none are left to crack there", cracked.bestFold(), 9);
    }

    // ---- alike, the share, the digest

    private static void leastTurn() {
        String[] other = {"12/3", "...31/....2", "", "", "...21/....3", "", "", "13/2"};
        other[2] = "...../...../...../....3/...21";
        other[3] = "...../...../...../2/13";
        other[5] = "...../...../...../....2/...31";
        other[6] = "...../...../...../3/12";
        for (int turn = 0; turn < 8; turn++) {
            EmbossPress p = new EmbossPress();
            Check.loadText(p, 0, "12/3");
            Check.loadText(p, 2, other[turn]);
            Check.due("by turn " + turn, p.alike(0, 2), turn);
            Check.due("with itself", p.alike(2, 2), 0);
            Check.due("with a die without depths", p.alike(0, 1), NONE);
            Check.due("of a die without depths", p.alike(1, 2), NONE);
            p.point(2, 2, 2, 1);
            Check.due("but for the middle", p.alike(0, 2), NONE);
            p.point(0, 2, 2, 2);
            Check.due("another depth in the middle", p.alike(0, 2), NONE);
            p.point(0, 2, 2, 1);
            Check.due("the same in the middle", p.alike(0, 2), turn);
        }
        for (int i = 0; i < 25; i++) {
            EmbossPress one = new EmbossPress();
            for (int die = 0; die < 2; die++) {
                Check.loadText(one, die, "12345/56789/98765/43219/21987");
            }
            Check.due("two dies the same", one.alike(0, 1), 0);
            one.point(1, i % 5, i / 5, 0);
            Check.due("but for point " + i, one.alike(0, 1), NONE);
        }
        EmbossPress p = new EmbossPress();
        Check.due("two dies without depths", p.alike(1, 2), 0);
        Check.loadText(p, 0, "1...1");
        Check.loadText(p, 1, "....1/.../.../.../....1");
        Check.due("by 1 and by 5 the least", p.alike(0, 1), 1);
        Check.loadText(p, 1, "1/.../.../.../1");
        Check.due("by 3 and by 7 the least", p.alike(0, 1), 3);
        Check.loadText(p, 1, "./.../.../.../1...1");
        Check.due("by 2 and by 6 the least", p.alike(0, 1), 2);
        Check.loadText(p, 1, "1...1");
        Check.due("by 0 and by 4 the least", p.alike(0, 1), 0);
    }

    private static void alikeOfNoDie() {
        EmbossPress p = new EmbossPress();
        for (int no : new int[] {-1, 3, MAX, MIN}) {
            Check.dueOutOfBounds(p, "the one " + no, () -> p.alike(no, 0));
            Check.dueOutOfBounds(p, "the other " + no, () -> p.alike(0, no));
            Check.dueOutOfBounds(p, "both " + no, () -> p.alike(no, no));
        }
    }

    private static void shares() {
        Check.dueShare("none", new EmbossPress().wholeShare(), 1.0);
        EmbossPress p = new EmbossPress();
        p.set(1, 0);
        for (int i = 1; i <= 16; i++) {
            Check.due("one crack more", Check.pressPoint(p, 3 * ((i - 1) % 4), 3 * ((i - 1) / 4), 9), 101);
            Check.dueShare(i + " cracks", p.wholeShare(), (144.0 - i) / 144.0);
        }
        EmbossPress all = Check.sheetOf(Check.chequered('1'));
        all.set(0, 0);
        all.fold(1);
        Check.dueShare("all", all.wholeShare(), 0.0);
        all.sheet();
        Check.dueShare("a new sheet", all.wholeShare(), 1.0);
    }

    private static EmbossPress allCracked() {
        EmbossPress p = Check.sheetOf(Check.chequered('9'));
        p.set(0, 0);
        p.fold(11);
        return p;
    }

    private static EmbossPress withNumbers() {
        EmbossPress p = used();
        p.press(1, 6, 6, 3);
        p.press(0, 12, 6, 3);
        p.pin();
        p.press(1, 0, 0, 3);
        p.fold(7);
        p.sheet();
        p.press(0, 7, 6, 5);
        p.undo();
        p.keep(0);
        return p;
    }

    private static void hashes() {
        Check.dueHash("a new object", EmbossPress::new, 0, "");
        Check.dueHash("a used one", LooksEdgesTest::used, 2, "12/x");
        Check.dueHash("a sheet without a whole place", LooksEdgesTest::allCracked, 0, "");
        Check.dueHash("many numbers", LooksEdgesTest::withNumbers, 3, "12/x");
        // Each crack less than the 144 is another share, and each has other bits.
        for (int cracks = 1; cracks <= 16; cracks++) {
            int made = cracks;
            Check.dueHash(cracks + " cracks", () -> withCracks(made), 0, "");
        }
    }

    private static EmbossPress withCracks(int cracks) {
        EmbossPress p = new EmbossPress();
        p.set(1, 0);
        p.point(0, 0, 0, 9);
        for (int i = 0; i < cracks; i++) {
            p.press(0, 3 * (i % 4), 3 * (i / 4), 0);
        }
        return p;
    }

    private static void endOfTheHash() {
        EmbossPress p = new EmbossPress();
        long empty = p.digest();
        p.append('!');
        Check.due("length 1 and a code", p.digest(), 31 * (empty + 1) + '!');
        p.append('~');
        Check.due("length 2 and two codes", p.digest(), 31 * (31 * (empty + 2) + '!') + '~');
        p.clearBuffer();
        Check.due("no code is left behind", p.digest(), empty);
        p.keep(1);
        Check.due("the second slot", p.digest(), empty + 31);
        p.keep(0);
        Check.due("both slots", p.digest(), empty + 31 + 31 * 31);
        Check.type(p, "7".repeat(40));
        long due = empty + 31 + 31 * 31 + 40;
        for (int i = 0; i < 40; i++) {
            due = 31 * due + '7';
        }
        Check.due("40 codes", p.digest(), due);
    }
}
