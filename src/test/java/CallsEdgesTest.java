/**
 * The edges that the document's promises 1 to 16 name: the calls that change something. Each
 * sentence has a test of its own, which fails if just that sentence is broken.
 */
public final class CallsEdgesTest {
    private static final String NO_DEPTHS = "00000/00000/00000/00000/00000";
    private static final int MAX = Integer.MAX_VALUE;
    private static final int MIN = Integer.MIN_VALUE;

    public static void main(String[] args) {
        newObjectAndDies();
        sheetPinAndFoil();
        pressFoldAndSet();
        texts();
        snapshots();
        Check.end();
    }

    private static void newObjectAndDies() {
        Check.sentence("Creates a sheet and dies without depths, with empty slots and an empty buffer.",
                CallsEdgesTest::newObject);
        Check.sentence("Changes a point of a die. Undoable.", CallsEdgesTest::pointIsUndone);
        Check.sentence("Returns the depth before.", CallsEdgesTest::pointReturns);
        Check.sentence("Throws `IndexOutOfBoundsException` if there is no such die or point", CallsEdgesTest::noSuchPoint);
        Check.sentence("Throws `IllegalArgumentException` if depth is out of range", CallsEdgesTest::noSuchDepth);
        Check.sentence("each point gets the depth of the place that is as far from (x, y), at most 9, 0 where no place is",
                CallsEdgesTest::castAtTheEdges);
        Check.sentence("Returns how many points are above 0 then.", CallsEdgesTest::castReturns);
        Check.sentence("Throws `IndexOutOfBoundsException` if there is no such die or place", CallsEdgesTest::castThrows);
    }

    private static void sheetPinAndFoil() {
        Check.sentence("Lays a new sheet, pinned, without foils (none lies ready, either).", CallsEdgesTest::newSheet);
        Check.sentence("Returns how many places of the old one had cracked.", CallsEdgesTest::sheetReturns);
        Check.sentence("Pins the sheet. Undoable.", CallsEdgesTest::pinIsUndone);
        Check.sentence("Returns the slip that it had.", CallsEdgesTest::pinReturns);
        Check.sentence("- `foil`: 1 to 9", CallsEdgesTest::foils);
        Check.sentence("toY the row of the other corner, neither less than x and y", CallsEdgesTest::cornersOfFoil);
        Check.sentence("Returns over how many places it lies.", CallsEdgesTest::foilReturns);
        Check.sentence("Throws `IndexOutOfBoundsException` if there is no such place", CallsEdgesTest::foilOffTheSheet);
        Check.sentence("Throws `IllegalArgumentException` if foil is out of range, or toX or toY is less than x or y",
                CallsEdgesTest::foilThrows);
    }

    private static void pressFoldAndSet() {
        Check.sentence("Presses a die. Undoable, also if it is refused.", CallsEdgesTest::pressIsUndone);
        Check.sentence("- `x`: any column, also outside of the sheet", CallsEdgesTest::pressOutside);
        Check.sentence("Returns 100 and how many places crack by it; if it is refused the reason.",
                CallsEdgesTest::pressReturns);
        Check.sentence("Throws `IndexOutOfBoundsException` if there is no such die", CallsEdgesTest::pressOfNoDie);
        Check.sentence("Throws `IllegalArgumentException` if turn is out of range", CallsEdgesTest::pressOfNoTurn);
        Check.sentence("Folds the sheet. Undoable.", CallsEdgesTest::foldIsUndone);
        Check.sentence("- `row`: 1 to 11", CallsEdgesTest::foldRows);
        Check.sentence("Returns how many places crack by it.", CallsEdgesTest::foldReturns);
        Check.sentence("Throws `IndexOutOfBoundsException` if there is no such row", CallsEdgesTest::foldThrows);
        Check.sentence("Returns the previous value.", CallsEdgesTest::setReturns);
        Check.sentence("Throws `IndexOutOfBoundsException` if there is no such setting", CallsEdgesTest::setOfNoSetting);
        Check.sentence("Throws `IllegalArgumentException` if value is out of range", CallsEdgesTest::setOutOfRange);
    }

    private static void texts() {
        Check.sentence("- `code`: the character code, 33 to 126", CallsEdgesTest::codes);
        Check.sentence("Returns the new length of the buffer.", CallsEdgesTest::appendReturns);
        Check.sentence("Throws `IllegalArgumentException` if code is not 33 to 126", CallsEdgesTest::noSuchCode);
        Check.sentence("Throws `IllegalStateException` if the buffer has 40 characters", CallsEdgesTest::fullBuffer);
        Check.sentence("Returns the length that it had.", CallsEdgesTest::clearBufferReturns);
        Check.sentence("Returns the index of the first character that is a syntax error; the length of the buffer if there is none.",
                CallsEdgesTest::firstErrorReturns);
        Check.sentence("Makes a die what the buffer tells, and clears the buffer. Undoable.", CallsEdgesTest::loadClears);
        Check.sentence("Throws `IllegalArgumentException` if the buffer does not tell a die as a text",
                CallsEdgesTest::loadThrows);
    }

    private static void snapshots() {
        Check.sentence("Takes a snapshot, in place of the one in the slot.", CallsEdgesTest::keepTakesThePlace);
        Check.sentence("Returns how many presses were made so far.", CallsEdgesTest::keepReturns);
        Check.sentence("Throws `IllegalArgumentException` if slot is out of range", CallsEdgesTest::noSuchSlot);
        Check.sentence("Goes back to a snapshot, which stays. Undoable.", CallsEdgesTest::snapshotStays);
        Check.sentence("Returns how many presses were made so far then.", CallsEdgesTest::goBackReturns);
        Check.sentence("Throws `IllegalStateException` if there is no snapshot in it", CallsEdgesTest::emptySlot);
        Check.sentence("Restores the latest saved state, and drops it.", CallsEdgesTest::undoDrops);
        Check.sentence("Returns how many saved states are left.", CallsEdgesTest::undoReturns);
        Check.sentence("Throws `IllegalStateException` if there is none", CallsEdgesTest::nothingToUndo);
    }

    // ---- a new object, dies

    private static void newObject() {
        EmbossPress other = new EmbossPress();
        Check.loadText(other, 1, "99999/99999");
        other.press(1, 3, 3, 0);
        other.set(0, 1);
        other.keep(0);
        other.append('5');
        EmbossPress p = new EmbossPress();
        for (int i = 0; i < 144; i++) {
            Check.due("depth", p.place(i % 12, i / 12, 0), 0);
        }
        for (int die = 0; die < 3; die++) {
            Check.dueOutcome("die " + die, Check.dieText(p, die, 0), NO_DEPTHS);
        }
        for (int what = 0; what < 14; what++) {
            Check.due("count " + what, p.count(what), what == 11 ? 1 : 0);
        }
        Check.dueIllegalState(p, "slot 0", () -> p.goBack(0));
        Check.dueIllegalState(p, "slot 1", () -> p.goBack(1));
        Check.dueIllegalState(p, "saved states", p::undo);
        Check.due("buffer", p.firstError(), 0);
        Check.due("buffer", p.clearBuffer(), 0);
        Check.dueShare("whole", p.wholeShare(), 1.0);
    }

    private static void pointIsUndone() {
        EmbossPress p = new EmbossPress();
        p.point(2, 4, 4, 9);
        p.point(2, 4, 4, 0);
        Check.due("undo", p.undo(), 1);
        Check.due("the point", p.dieOf(2, 4, 4, 0), 9);
        Check.due("undo", p.undo(), 0);
        Check.due("the point", p.dieOf(2, 4, 4, 0), 0);
    }

    private static void pointReturns() {
        EmbossPress p = new EmbossPress();
        Check.due("at first", p.point(0, 0, 0, 9), 0);
        Check.due("the greatest", p.point(0, 0, 0, 9), 9);
        Check.due("unchanged", p.point(0, 0, 0, 0), 9);
        Check.due("the least", p.point(0, 0, 0, 1), 0);
    }

    private static void noSuchPoint() {
        EmbossPress p = new EmbossPress();
        for (int no : new int[] {-1, 3, MAX, MIN}) {
            Check.dueOutOfBounds(p, "point of die " + no, () -> p.point(no, 2, 2, 1));
        }
        for (int no : new int[] {-1, 5, MAX, MIN}) {
            Check.dueOutOfBounds(p, "point in column " + no, () -> p.point(1, no, 2, 1));
            Check.dueOutOfBounds(p, "point in row " + no, () -> p.point(1, 2, no, 1));
        }
        // These wrap to points that there are if column and row are put into one number first.
        Check.dueOutOfBounds(p, "ahead of the second row", () -> p.point(0, -1, 1, 1));
        Check.dueOutOfBounds(p, "behind the first row", () -> p.point(0, 5, 0, 1));
        Check.dueOutOfBounds(p, "far row", () -> p.point(0, 1, 858993459, 1));
    }

    private static void noSuchDepth() {
        EmbossPress p = new EmbossPress();
        for (int no : new int[] {-1, 10, MAX, MIN}) {
            Check.dueIllegal(p, "depth " + no, () -> p.point(0, 0, 0, no));
        }
        for (int depth = 0; depth <= 9; depth++) {
            p.point(0, 0, 0, depth);
            Check.due("depth", p.dieOf(0, 0, 0, 0), depth);
        }
    }

    private static EmbossPress flatSheet(char depth) {
        String[] rows = new String[12];
        for (int y = 0; y < 12; y++) {
            rows[y] = String.valueOf(depth).repeat(12);
        }
        return Check.sheetOf(rows);
    }

    private static void dueCast(EmbossPress p, int x, int y, String die) {
        Check.loadText(p, 0, "11111/11111/11111/11111/11111");
        p.cast(0, x, y);
        Check.dueOutcome("cast at " + x + " " + y, Check.dieText(p, 0, 0), die);
    }

    private static void castAtTheEdges() {
        EmbossPress p = flatSheet('9');
        dueCast(p, 0, 0, "99999/99999/99999/99999/99999");
        dueCast(p, 7, 7, "99999/99999/99999/99999/99999");
        EmbossPress q = flatSheet('9');
        dueCast(q, 8, 7, "99990/99990/99990/99990/99990");
        dueCast(q, 7, 8, "99999/99999/99999/99999/00000");
        EmbossPress r = flatSheet('9');
        dueCast(r, 11, 11, "90000/00000/00000/00000/00000");
        dueCast(r, 11, 0, "90000/90000/90000/90000/90000");
        EmbossPress s = flatSheet('9');
        dueCast(s, 0, 11, "99999/00000/00000/00000/00000");
        EmbossPress corners = Check.sheetOf("1..........2", "............", "............", "............",
                "............", "............", "............", "............", "............", "............",
                "............", "3..........4");
        dueCast(corners, 7, 7, "00000/00000/00000/00000/00004");
        dueCast(corners, 0, 0, "10000/00000/00000/00000/00000");
        dueCast(corners, 11, 0, "20000/00000/00000/00000/00000");
        EmbossPress slip = slippedTwice();
        dueCast(slip, 0, 0, "11000/00000/00000/00000/00000");
        dueCast(slip, 1, 0, "10000/00000/00000/00000/00000");
    }

    private static void castReturns() {
        EmbossPress p = Check.strong();
        Check.loadText(p, 0, "99999/99999/99999/99999/99999");
        Check.due("of a sheet without depths", p.cast(0, 7, 7), 0);
        EmbossPress q = flatSheet('1');
        Check.due("of the whole", q.cast(0, 7, 7), 25);
        Check.due("at the right", q.cast(0, 8, 7), 20);
        Check.due("below", q.cast(0, 7, 8), 20);
        Check.due("in the corner", q.cast(0, 11, 11), 1);
        Check.due("undone", q.undo() + Check.dieText(q, 0, 0).replaceAll("[/0]", "").length(), 5 + 20);
    }

    private static void castThrows() {
        EmbossPress p = new EmbossPress();
        for (int no : new int[] {-1, 3, MAX, MIN}) {
            Check.dueOutOfBounds(p, "cast into die " + no, () -> p.cast(no, 0, 0));
        }
        for (int no : new int[] {-1, 12, MAX, MIN}) {
            Check.dueOutOfBounds(p, "cast from column " + no, () -> p.cast(0, no, 3));
            Check.dueOutOfBounds(p, "cast from row " + no, () -> p.cast(0, 3, no));
        }
        Check.due("from the last place", p.cast(2, 11, 11), 0);
    }

    // ---- sheet, pin, foil

    private static void newSheet() {
        EmbossPress p = new EmbossPress();
        p.set(3, 1);
        p.foil(5, 0, 0, 11, 11);
        Check.pressPoint(p, 5, 5, 9);
        Check.pressPoint(p, 9, 5, 9);
        p.foil(6, 0, 0, 11, 11);
        Check.due("slip before", p.count(2), 2);
        p.sheet();
        int[] due = {2, 0, 0, 0, 0, 0, 0, 0, 0, 0, 2, 2, 0, 6};
        for (int what = 0; what < due.length; what++) {
            Check.due("count " + what, p.count(what), due[what]);
        }
        for (int what = 0; what < 7; what++) {
            Check.due("property " + what, p.place(5, 5, what), what == 4 ? 12 : 0);
            Check.due("property " + what, p.place(10, 5, what), what == 4 ? 12 : 0);
        }
        Check.pressPoint(p, 0, 0, 1);
        Check.due("no foil sticks", p.count(8), 0);
        Check.due("no slip at the first press", p.place(0, 0, 0), 1);
    }

    private static void sheetReturns() {
        EmbossPress p = new EmbossPress();
        Check.due("none", p.sheet(), 0);
        Check.due("one crack", Check.pressPoint(p, 5, 5, 9), 101);
        Check.due("one", p.sheet(), 1);
        Check.due("none of the new one", p.sheet(), 0);
        EmbossPress q = Check.sheetOf(Check.chequered('1'));
        q.set(0, 0);
        q.fold(1);
        Check.due("all", q.sheet(), 144);
        Check.due("undo", q.undo(), 5);
        Check.due("all of them are back", q.count(4), 144);
    }

    private static EmbossPress slippedTwice() {
        EmbossPress p = new EmbossPress();
        p.set(3, 1);
        Check.pressPoint(p, 0, 0, 1);
        Check.pressPoint(p, 0, 0, 1);
        return p;
    }

    private static void pinIsUndone() {
        EmbossPress p = slippedTwice();
        p.pin();
        p.undo();
        Check.due("slip", p.count(2), 2);
        Check.due("presses since it was pinned", p.count(1), 2);
        p.pin();
        Check.due("a second time", p.pin(), 0);
        Check.due("also saved", p.undo(), 5);
    }

    private static void pinReturns() {
        EmbossPress p = new EmbossPress();
        Check.due("a new sheet is pinned", p.pin(), 0);
        p.set(3, 1);
        for (int slip = 1; slip <= 5; slip++) {
            Check.pressPoint(p, 0, 0, 1);
            Check.due("slip of presses", p.pin(), Math.min(slip, 3));
            p.undo();
        }
    }

    private static void foils() {
        EmbossPress p = new EmbossPress();
        for (int foil = 1; foil <= 9; foil++) {
            Check.due("foil " + foil, p.foil(foil, 0, 0, 0, 0), 1);
            Check.due("ready", p.count(9), foil);
            Check.due("press", Check.pressPoint(p, 0, 0, 1), 100);
            Check.due("stuck", p.place(0, 0, 1), foil);
        }
        for (int no : new int[] {-1, 0, 10, MAX, MIN}) {
            Check.dueIllegal(p, "foil " + no, () -> p.foil(no, 0, 0, 0, 0));
        }
    }

    private static void cornersOfFoil() {
        EmbossPress p = new EmbossPress();
        Check.due("both corners at one place", p.foil(1, 4, 7, 4, 7), 1);
        Check.due("over it", p.place(4, 7, 5), 1);
        Check.due("not beside it", p.place(5, 7, 5) + p.place(3, 7, 5), 0);
        Check.due("not above or below it", p.place(4, 6, 5) + p.place(4, 8, 5), 0);
        Check.dueIllegal(p, "toX less by one", () -> p.foil(1, 4, 7, 3, 8));
        Check.dueIllegal(p, "toY less by one", () -> p.foil(1, 4, 7, 5, 6));
        Check.dueIllegal(p, "both less", () -> p.foil(1, 11, 11, 0, 0));
    }

    private static void foilReturns() {
        EmbossPress p = new EmbossPress();
        Check.due("the sheet", p.foil(1, 0, 0, 11, 11), 144);
        Check.due("a row", p.foil(1, 0, 11, 11, 11), 12);
        Check.due("a column", p.foil(1, 11, 0, 11, 11), 12);
        Check.due("a place", p.foil(1, 11, 11, 11, 11), 1);
        Check.due("two columns, three rows", p.foil(1, 3, 4, 4, 6), 6);
    }

    private static void foilOffTheSheet() {
        EmbossPress p = new EmbossPress();
        for (int no : new int[] {-1, 12, MAX, MIN}) {
            Check.dueOutOfBounds(p, "x " + no, () -> p.foil(1, no, 0, 11, 0));
            Check.dueOutOfBounds(p, "y " + no, () -> p.foil(1, 0, no, 0, 11));
            Check.dueOutOfBounds(p, "toX " + no, () -> p.foil(1, 0, 0, no, 0));
            Check.dueOutOfBounds(p, "toY " + no, () -> p.foil(1, 0, 0, 0, no));
        }
    }

    private static void foilThrows() {
        EmbossPress p = new EmbossPress();
        p.foil(8, 0, 0, 1, 1);
        Check.dueIllegal(p, "foil 0", () -> p.foil(0, 0, 0, 0, 0));
        Check.dueIllegal(p, "foil 10", () -> p.foil(10, 0, 0, 0, 0));
        Check.dueIllegal(p, "toX 0, x 1", () -> p.foil(1, 1, 0, 0, 0));
        Check.dueIllegal(p, "toY 0, y 1", () -> p.foil(1, 0, 1, 0, 0));
        Check.due("the foil before lies ready", p.count(9), 8);
    }

    // ---- press, fold, set

    private static void pressIsUndone() {
        EmbossPress p = new EmbossPress();
        p.set(3, 1);
        p.foil(4, 0, 0, 11, 11);
        p.point(0, 0, 0, 9);
        long before = p.digest();
        Check.due("press", p.press(0, 5, 5, 0), 101);
        Check.due("undo", p.undo(), 3);
        Check.due("all is as before", p.digest(), before);
        Check.due("refused", p.press(0, 12, 5, 0), 1);
        Check.due("undo", p.undo(), 3);
        Check.due("all is as before", p.digest(), before);
    }

    private static void pressOutside() {
        EmbossPress p = new EmbossPress();
        p.point(0, 4, 4, 1);
        p.point(1, 0, 0, 1);
        Check.due("left of the sheet, above it", p.press(0, -4, -4, 0), 100);
        Check.due("at the upper left", p.place(0, 0, 6), 1);
        Check.due("turned twice it is at the first point", p.press(0, 11, 11, 2), 100);
        Check.due("at the lower right", p.place(11, 11, 6), 1);
        Check.due("right of the sheet", p.press(1, 12, 0, 0), 1);
        Check.due("below the sheet", p.press(1, 0, 12, 0), 1);
        Check.due("turned, right of the sheet", p.press(1, 8, 0, 1), 1);
        for (int far : new int[] {MAX, MIN, MAX - 4, MIN + 4}) {
            Check.due("far at the side", p.press(0, far, 0, 0), 1);
            Check.due("far above or below", p.press(0, 0, far, 0), 1);
        }
    }

    private static void pressReturns() {
        EmbossPress p = Check.sheetOf(Check.chequered('1'));
        Check.due("none", Check.pressPoint(p, 0, 0, 1), 100);
        p.set(0, 0);
        Check.due("all", Check.pressPoint(p, 0, 0, 1), 244);
        Check.due("none any more", Check.pressPoint(p, 0, 0, 9), 100);
        Check.due("reason 1", Check.pressPoint(p, 12, 0, 9), 1);
        p.set(2, 8);
        Check.due("reason 2", Check.pressPoint(p, 0, 0, 9), 2);
        Check.due("reason 3", p.press(1, 0, 0, 0), 3);
        Check.due("refused so far", p.count(3), 3);
        Check.due("cracks so far", p.count(10), 144);
        Check.due("cracks before this press do not count", p.count(4), 144);
    }

    private static void pressOfNoDie() {
        EmbossPress p = new EmbossPress();
        for (int no : new int[] {-1, 3, MAX, MIN}) {
            Check.dueOutOfBounds(p, "die " + no, () -> p.press(no, 0, 0, 0));
        }
        Check.due("the last die", p.press(2, 0, 0, 0), 3);
    }

    private static void pressOfNoTurn() {
        EmbossPress p = new EmbossPress();
        for (int no : new int[] {-1, 8, MAX, MIN}) {
            Check.dueIllegal(p, "turn " + no, () -> p.press(0, 0, 0, no));
        }
        p.point(0, 1, 0, 1);
        int[][] comesTo = {{1, 0}, {4, 1}, {3, 4}, {0, 3}, {3, 0}, {4, 3}, {1, 4}, {0, 1}};
        for (int turn = 0; turn < 8; turn++) {
            EmbossPress q = new EmbossPress();
            q.point(0, 1, 0, 1);
            Check.due("turn " + turn, q.press(0, 3, 3, turn), 100);
            Check.due("pressed", q.place(3 + comesTo[turn][0], 3 + comesTo[turn][1], 6), 1);
        }
    }

    private static EmbossPress allStrained() {
        EmbossPress p = Check.sheetOf(Check.chequered('1'));
        p.set(0, 0);
        return p;
    }

    private static void foldIsUndone() {
        EmbossPress p = allStrained();
        long before = p.digest();
        Check.due("fold", p.fold(1), 144);
        Check.due("undo", p.undo(), 5);
        p.set(0, 0);
        Check.due("all is as before", p.digest(), before);
        Check.due("folds so far", p.count(12), 0);
    }

    private static void foldRows() {
        EmbossPress p = new EmbossPress();
        for (int row = 1; row <= 11; row++) {
            Check.due("row " + row, p.fold(row), 0);
            Check.due("folds so far", p.count(12), row);
        }
    }

    private static void foldReturns() {
        EmbossPress p = allStrained();
        p.set(0, 36);
        Check.due("none", p.fold(1), 0);
        p.set(0, 0);
        Check.due("all", p.fold(11), 144);
        Check.due("none any more", p.fold(11), 0);
        Check.due("cracks so far", p.count(10), 144);
    }

    private static void foldThrows() {
        EmbossPress p = allStrained();
        for (int no : new int[] {-1, 0, 12, MAX, MIN}) {
            Check.dueOutOfBounds(p, "row " + no, () -> p.fold(no));
        }
        Check.due("none has cracked", p.count(4), 0);
    }

    private static void setReturns() {
        EmbossPress p = new EmbossPress();
        int[] first = {12, 3, 9, 0};
        for (int i = 0; i < 4; i++) {
            Check.due("the first value", p.set(i, 1), first[i]);
            Check.due("the value that was set", p.set(i, 1), 1);
            Check.due("the value that was set again", p.set(i, 2), 1);
            p.undo();
            Check.due("undone", p.setting(i), 1);
        }
    }

    private static void setOfNoSetting() {
        EmbossPress p = new EmbossPress();
        for (int no : new int[] {-1, 4, MAX, MIN}) {
            Check.dueOutOfBounds(p, "setting " + no, () -> p.set(no, 1));
        }
    }

    private static void setOutOfRange() {
        EmbossPress p = new EmbossPress();
        int[][] ranges = {{0, 99}, {0, 20}, {1, 9}, {0, 9}};
        for (int i = 0; i < 4; i++) {
            int setting = i;
            Check.due("the least", p.set(i, ranges[i][0]) == -1 ? 1 : 0, 0);
            Check.due("the greatest", p.set(i, ranges[i][1]), ranges[i][0]);
            Check.dueIllegal(p, "below the least", () -> p.set(setting, ranges[setting][0] - 1));
            Check.dueIllegal(p, "above the greatest", () -> p.set(setting, ranges[setting][1] + 1));
            Check.due("the greatest stays", p.setting(i), ranges[i][1]);
        }
    }

    // ---- texts

    private static void codes() {
        for (int code = 33; code <= 126; code++) {
            EmbossPress p = new EmbossPress();
            long before = p.digest();
            Check.due("code " + code, p.append(code), 1);
            // Behind the length, at first 0, comes the code: 31 * (hash + 1) + code.
            Check.due("the code in the digest", p.digest(), 31 * (before + 1) + code);
        }
    }

    private static void appendReturns() {
        EmbossPress p = new EmbossPress();
        Check.due("the first one", p.append('1'), 1);
        for (int length = 2; length <= 40; length++) {
            Check.due("the next one", p.append('/'), length);
        }
        p.clearBuffer();
        Check.due("the first one again", p.append('1'), 1);
        p.load(0);
        Check.due("the first one behind load", p.append('1'), 1);
    }

    private static void noSuchCode() {
        EmbossPress p = new EmbossPress();
        for (int code : new int[] {32, 127, 0, -1, 10, 128, 255, 65536 + 49, 256 + 49, MAX, MIN}) {
            Check.dueIllegal(p, "code " + code, () -> p.append(code));
        }
        Check.due("still empty", p.clearBuffer(), 0);
    }

    private static void fullBuffer() {
        EmbossPress p = new EmbossPress();
        Check.type(p, "1".repeat(39));
        Check.due("the last one that fits", p.append('/'), 40);
        Check.dueIllegalState(p, "one more", () -> p.append('1'));
        Check.dueIllegalState(p, "one more again", () -> p.append('!'));
        Check.due("40", p.clearBuffer(), 40);
    }

    private static void clearBufferReturns() {
        for (int length : new int[] {0, 1, 39, 40}) {
            EmbossPress p = new EmbossPress();
            Check.type(p, "1".repeat(length));
            Check.due("length " + length, p.clearBuffer(), length);
            Check.due("empty", p.clearBuffer(), 0);
            Check.due("not saved", p.count(13), 0);
        }
    }

    private static void firstErrorReturns() {
        String[] texts = {"", "1", "1/", "12345/12345/12345/12345/12345", "/", "1//", "123456", "1/2/3/4/5/", "!"};
        int[] due = {0, 1, 2, 29, 0, 2, 5, 9, 0};
        for (int i = 0; i < texts.length; i++) {
            EmbossPress p = new EmbossPress();
            Check.type(p, texts[i]);
            Check.due("firstError of " + texts[i], p.firstError(), due[i]);
            Check.due("the buffer stays", p.clearBuffer(), texts[i].length());
            Check.due("of the empty buffer", p.firstError(), 0);
        }
    }

    private static void loadClears() {
        EmbossPress p = new EmbossPress();
        Check.due("points above 0", Check.loadText(p, 0, "12345/12345/12345/12345/12345"), 25);
        Check.due("the buffer is cleared", p.clearBuffer(), 0);
        Check.due("none above 0", Check.loadText(p, 0, "."), 0);
        Check.dueOutcome("the die", Check.dieText(p, 0, 0), NO_DEPTHS);
        p.append('7');
        Check.due("undo", p.undo(), 1);
        Check.dueOutcome("the die", Check.dieText(p, 0, 0), "12345/12345/12345/12345/12345");
        Check.due("undo leaves the buffer", p.load(1), 1);
    }

    private static void loadThrows() {
        String[] texts = {"", "/", "1/", "1/2/3/4/5/", "1/2/3/4/5/6", "123456", "1//1", "1x", "/1"};
        for (String text : texts) {
            EmbossPress p = new EmbossPress();
            Check.loadText(p, 2, "55");
            Check.type(p, text);
            Check.dueIllegal(p, "load of " + text, () -> p.load(2));
            Check.due("the die stays", p.dieOf(2, 1, 0, 0), 5);
            Check.due("the buffer stays", p.clearBuffer(), text.length());
            Check.due("nothing is saved", p.count(13), 1);
        }
        EmbossPress p = new EmbossPress();
        Check.type(p, "1");
        for (int no : new int[] {-1, 3, MAX, MIN}) {
            Check.dueOutOfBounds(p, "die " + no, () -> p.load(no));
        }
        Check.due("the last die", p.load(2), 1);
    }

    // ---- snapshots and undo

    private static void keepTakesThePlace() {
        for (int slot = 0; slot < 2; slot++) {
            EmbossPress p = new EmbossPress();
            p.keep(slot);
            p.set(0, 50);
            p.keep(slot);
            p.set(0, 60);
            p.goBack(slot);
            Check.due("the later snapshot", p.setting(0), 50);
            Check.due("keep is not saved", p.count(13), 3);
        }
    }

    private static void keepReturns() {
        EmbossPress p = new EmbossPress();
        Check.due("none", p.keep(0), 0);
        Check.pressPoint(p, 0, 0, 1);
        p.press(1, 0, 0, 0);
        Check.due("one, and a refused one", p.keep(1), 1);
        p.pin();
        p.sheet();
        Check.due("also those before the pin and on the old sheet", p.keep(1), 1);
    }

    private static void noSuchSlot() {
        EmbossPress p = new EmbossPress();
        p.keep(0);
        p.keep(1);
        for (int no : new int[] {-1, 2, MAX, MIN}) {
            Check.dueIllegal(p, "keep " + no, () -> p.keep(no));
            Check.dueIllegal(p, "goBack " + no, () -> p.goBack(no));
        }
    }

    private static void snapshotStays() {
        EmbossPress p = new EmbossPress();
        p.set(0, 30);
        p.keep(1);
        for (int i = 0; i < 3; i++) {
            p.set(0, 40 + i);
            Check.pressPoint(p, i, i, 9);
            p.goBack(1);
            Check.due("the snapshot", p.setting(0), 30);
            Check.due("the snapshot", p.count(4), 0);
            Check.due("the snapshot", p.place(i, i, 0), 0);
        }
        p.undo();
        Check.due("undone goBack", p.setting(0), 42);
        Check.due("undone goBack", p.place(2, 2, 0), 9);
    }

    private static void goBackReturns() {
        EmbossPress p = new EmbossPress();
        p.keep(0);
        Check.pressPoint(p, 0, 0, 1);
        p.keep(1);
        Check.pressPoint(p, 0, 0, 1);
        Check.due("none", p.goBack(0), 0);
        Check.due("presses so far", p.count(0), 0);
        Check.due("one", p.goBack(1), 1);
        Check.due("presses so far", p.count(0), 1);
    }

    private static void emptySlot() {
        EmbossPress p = new EmbossPress();
        Check.dueIllegalState(p, "slot 0", () -> p.goBack(0));
        Check.dueIllegalState(p, "slot 1", () -> p.goBack(1));
        p.keep(1);
        Check.dueIllegalState(p, "slot 0", () -> p.goBack(0));
        p.keep(0);
        Check.due("slot 0", p.goBack(0), 0);
        p.undo();
        Check.due("undo empties no slot", p.goBack(1), 0);
        EmbossPress q = new EmbossPress();
        q.keep(0);
        Check.dueIllegalState(q, "slot 1", () -> q.goBack(1));
    }

    private static void undoDrops() {
        EmbossPress p = new EmbossPress();
        p.set(0, 1);
        p.set(0, 2);
        p.set(0, 3);
        p.undo();
        Check.due("the latest one", p.setting(0), 2);
        p.undo();
        Check.due("the one before it", p.setting(0), 1);
        p.set(0, 4);
        p.undo();
        Check.due("saved in its place", p.setting(0), 1);
        p.undo();
        Check.due("the first one", p.setting(0), 12);
    }

    private static void undoReturns() {
        EmbossPress p = new EmbossPress();
        for (int i = 0; i < 7; i++) {
            p.pin();
        }
        for (int left = 5; left >= 0; left--) {
            Check.due("left", p.undo(), left);
            Check.due("saved states", p.count(13), left);
        }
    }

    private static void nothingToUndo() {
        EmbossPress p = new EmbossPress();
        Check.dueIllegalState(p, "a new object", p::undo);
        p.pin();
        p.undo();
        Check.dueIllegalState(p, "all undone", p::undo);
        p.append('1');
        p.keep(0);
        Check.dueIllegalState(p, "nothing undoable", p::undo);
        p.goBack(0);
        Check.due("goBack is undoable", p.undo(), 0);
    }
}
