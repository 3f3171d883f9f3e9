/** Promises 8 fold, 23 ifFolded, 24 bestFold. */
public final class FoldTest {
    public static void main(String[] args) {
        foldCracksSteps();
        foldLooksFirst();
        foldCracksInItsWake();
        foldChangesNothingElse();
        ifFoldedTells();
        bestFoldFindsRow();
        wrongInputs();
        Check.end();
    }

    /** The lower half of the sheet, from row 6 on, has this depth; no place has cracked. */
    private static EmbossPress halfDeep(int depth) {
        EmbossPress p = new EmbossPress();
        p.set(0, 99);
        String row = Integer.toString(depth).repeat(5);
        Check.loadText(p, 0, row + "/" + row + "/" + row + "/" + row + "/" + row);
        for (int[] at : new int[][] {{0, 6}, {5, 6}, {7, 6}, {0, 7}, {5, 7}, {7, 7}}) {
            Check.due("half", p.press(0, at[0], at[1], 0), 100);
        }
        return p;
    }

    private static void foldCracksSteps() {
        EmbossPress p = halfDeep(4);
        p.set(0, 8);
        Check.due("a step of half of what it bears", p.fold(6), 0);
        p.set(0, 7);
        Check.due("no step there", p.fold(5), 0);
        Check.due("no step there", p.fold(7), 0);
        Check.due("folds so far", p.count(12), 3);
        Check.due("more than half of 7", p.fold(6), 24);
        Check.due("cracked above", p.place(0, 5, 2), 1);
        Check.due("cracked below", p.place(11, 6, 2), 1);
        Check.due("not cracked", p.place(3, 7, 2), 0);
        Check.due("cracked so far", p.count(10), 24);
        Check.due("cracked ones crack no more", p.fold(6), 0);
        p.undo();
        p.undo();
        Check.due("undone fold", p.count(4), 0);
        Check.due("undone fold", p.count(10), 0);
        Check.due("undone fold", p.count(12), 3);
        EmbossPress q = halfDeep(3);
        q.set(0, 5);
        Check.due("half of 5 is 2", q.ifFolded(6), 24);
        q.set(0, 6);
        Check.due("half of 6 is 3", q.ifFolded(6), 0);
        EmbossPress r = halfDeep(1);
        r.set(0, 2);
        Check.due("half of 2", r.ifFolded(6), 0);
        r.set(0, 1);
        Check.due("half of 1 is 0", r.ifFolded(6), 24);
    }

    private static void foldLooksFirst() {
        EmbossPress p = halfDeep(4);
        Check.due("one step more", Check.pressPoint(p, 5, 6, 5), 100);
        p.set(0, 8);
        p.set(1, 2);
        // Were the places beside it weakened at once, their steps of 4 would crack, too.
        Check.due("only the step of 5", p.fold(6), 2);
        Check.due("above", p.place(5, 5, 2), 1);
        Check.due("below", p.place(5, 6, 2), 1);
        Check.due("now those beside it are weak", p.ifFolded(6), 4);
    }

    private static void foldCracksInItsWake() {
        EmbossPress p = halfDeep(4);
        Check.pressPoint(p, 5, 6, 5);
        p.set(0, 8);
        p.set(1, 4);
        // Those beside the step of 5 bear 4, and are strained by 5; the next ones by 4.
        Check.due("the step, and what it weakens", p.ifFolded(6), 6);
        p.set(1, 5);
        Check.due("and so again, to both ends", p.fold(6), 24);
        Check.due("at the left end", p.place(0, 5, 2), 1);
        EmbossPress q = new EmbossPress();
        q.set(0, 36);
        Check.pressPoint(q, 5, 9, 9);
        q.set(0, 35);
        Check.due("far from the fold, strained too much", q.fold(1), 1);
        Check.due("cracked", q.place(5, 9, 2), 1);
        EmbossPress r = new EmbossPress();
        r.set(0, 36);
        Check.pressPoint(r, 5, 9, 9);
        r.set(0, 17);
        r.set(1, 0);
        Check.due("half of 17 is 8, and a 9 of strain holds", r.ifFolded(9), 2);
        Check.due("ahead of the row below", r.ifFolded(10), 2);
        Check.due("beside it, only the strain", r.ifFolded(8), 1);
    }

    private static void foldChangesNothingElse() {
        EmbossPress p = halfDeep(4);
        p.set(0, 7);
        p.set(3, 1);
        p.foil(5, 0, 0, 3, 3);
        String depths = Check.places(p, 0);
        p.fold(6);
        Check.dueOutcome("depths stay", Check.places(p, 0), depths);
        Check.due("presses stay", p.count(0), 6);
        Check.due("slip stays", p.count(2), 0);
        Check.due("foil stays", p.count(9), 5);
        EmbossPress q = new EmbossPress();
        Check.due("fold of a flat sheet", q.fold(11), 0);
        Check.due("it is saved", q.count(13), 1);
        Check.due("it is counted", q.count(12), 1);
    }

    private static void ifFoldedTells() {
        EmbossPress p = new EmbossPress();
        p.set(1, 2);
        Check.loadText(p, 0, "123/4.6/55");
        Check.loadText(p, 1, "9.9.9/.4/5...8");
        for (int i = 0; i < 22; i++) {
            p.press(i % 2, (i * 5) % 8, (i * 3) % 8, i % 8);
            int row = 1 + i % 11;
            long before = p.digest();
            int told = p.ifFolded(row);
            Check.due("ifFolded changes nothing", p.digest(), before);
            Check.due("ifFolded " + i, told, p.fold(row));
            if (i % 3 != 0) {
                p.undo();
            }
        }
    }

    private static void bestFoldFindsRow() {
        EmbossPress p = new EmbossPress();
        Check.due("of a flat sheet", p.bestFold(), 1);
        // Steps of 4 ahead of the odd rows, on the left, and ahead of the even ones beside them.
        Check.due("no step ahead of 7", bands("044004444004", "004400440044").bestFold(), 7);
        Check.due("no step ahead of 11", bands("044004400444", "004400440044").bestFold(), 11);
        Check.due("no step ahead of 2", bands("044004400440", "000044004400").bestFold(), 2);
        Check.due("a step of 3 is the least", bands("044004400440", "004400330044").bestFold(), 6);
        Check.due("of several the least row", bands("044004400440", "000000000000").bestFold(), 2);
        EmbossPress q = bands("044004400440", "004400440044");
        Check.due("bestFold tells the fewest", q.ifFolded(q.bestFold()), fewestCracks(q));
        long before = q.digest();
        q.bestFold();
        Check.due("bestFold changes nothing", q.digest(), before);
    }

    private static int fewestCracks(EmbossPress p) {
        int fewest = p.ifFolded(1);
        for (int row = 2; row < 12; row++) {
            fewest = Math.min(fewest, p.ifFolded(row));
        }
        return fewest;
    }

    /**
     * Two bands of five columns, each with the depth of every row; paper that bears 7, so that a
     * step of 4 cracks. Where the bands meet places crack by any fold, as many for all rows.
     */
    private static EmbossPress bands(String left, String right) {
        EmbossPress p = new EmbossPress();
        p.set(0, 99);
        p.set(1, 0);
        for (int y = 0; y < 12; y++) {
            Check.loadText(p, 2, left.substring(y, y + 1).repeat(5));
            p.press(2, 0, y, 0);
            Check.loadText(p, 2, right.substring(y, y + 1).repeat(5));
            p.press(2, 5, y, 0);
        }
        p.set(0, 7);
        return p;
    }

    private static void wrongInputs() {
        EmbossPress p = new EmbossPress();
        for (int row : new int[] {0, 12, -1, Integer.MAX_VALUE, Integer.MIN_VALUE}) {
            Check.dueOutOfBounds(p, "fold " + row, () -> p.fold(row));
            Check.dueOutOfBounds(p, "ifFolded " + row, () -> p.ifFolded(row));
        }
    }
}
