/** Promises 14 keep, 15 goBack, 16 undo, and what "undoable" says. */
public final class SnapshotTest {
    public static void main(String[] args) {
        keepAndGoBack();
        slotsAreTheirOwn();
        goBackIsUndone();
        undoRestoresAll();
        undoHoldsSix();
        everyUndoableCallSaves();
        undoIsNotUndoable();
        wrongInputs();
        Check.end();
    }

    /**
     * Answers but those that tell of the saved states, the slots and the buffer; of the places those
     * where something happens, as an object is used for 512 calls only.
     */
    private static String look(EmbossPress p) {
        StringBuilder text = new StringBuilder();
        for (int what = 0; what < 13; what++) {
            text.append(p.count(what)).append(' ');
        }
        for (int i = 0; i < 4; i++) {
            text.append(p.setting(i)).append(' ');
        }
        for (int die = 0; die < 3; die++) {
            text.append(Check.dieText(p, die, 0)).append(' ');
        }
        for (int i = 0; i < 12 * 7; i++) {
            text.append(p.place(i / 7, i / 7, i % 7)).append(' ');
        }
        return text.toString();
    }

    private static void keepAndGoBack() {
        EmbossPress p = Check.used();
        int saved = p.count(13);
        Check.due("keep", p.keep(0), 3);
        Check.due("keep saves nothing", p.count(13), saved);
        // As many states are saved each time, so that the digest tells whether all is back.
        long before = p.digest();
        Check.spoil(p);
        Check.dueOutcome("spoilt", p.digest() == before ? "same" : "other", "other");
        Check.due("goBack", p.goBack(0), 3);
        Check.due("behind goBack", p.digest(), before);
        Check.spoil(p);
        Check.due("the snapshot stays", p.goBack(0), 3);
        Check.due("behind goBack again", p.digest(), before);
    }

    private static void slotsAreTheirOwn() {
        EmbossPress p = Check.used();
        p.keep(0);
        p.keep(1);
        long first = p.digest();
        Check.spoil(p);
        long second = p.digest();
        Check.due("keep", p.keep(0), 4);
        Check.due("goBack to 1", p.goBack(1), 3);
        Check.due("slot 1", p.digest(), first);
        Check.due("goBack to 0", p.goBack(0), 4);
        Check.due("slot 0", p.digest(), second);
        Check.due("keep in place of the first one", p.keep(1), 4);
        Check.pressPoint(p, 0, 0, 1);
        p.goBack(1);
        Check.due("slot 1 anew", p.digest(), second);
    }

    private static void goBackIsUndone() {
        EmbossPress p = Check.used();
        p.keep(0);
        Check.spoil(p);
        String spoilt = look(p);
        p.goBack(0);
        Check.due("goBack is saved", p.undo(), 5);
        Check.dueOutcome("undone goBack", look(p), spoilt);
        EmbossPress q = new EmbossPress();
        q.keep(0);
        q.point(0, 0, 0, 3);
        q.undo();
        Check.due("undo leaves the slots", q.goBack(0), 0);
        q.undo();
        q.point(0, 0, 0, 3);
        q.keep(1);
        q.undo();
        Check.due("a snapshot outlives the undo behind it", q.goBack(1), 0);
        Check.due("with its die", q.dieOf(0, 0, 0, 0), 3);
    }

    private static void undoRestoresAll() {
        EmbossPress p = Check.used();
        String before = look(p);
        p.goBack(keepIn(p, 1));
        p.sheet();
        p.set(0, 50);
        p.foil(1, 0, 0, 11, 11);
        p.press(2, 9, 9, 0);
        p.fold(4);
        for (int left = 5; left >= 0; left--) {
            Check.due("undo", p.undo(), left);
            Check.due("saved states", p.count(13), left);
        }
        Check.dueOutcome("behind undo", look(p), before);
        Check.dueIllegalState(p, "undo of nothing", p::undo);
    }

    private static int keepIn(EmbossPress p, int slot) {
        p.keep(slot);
        return slot;
    }

    private static void undoHoldsSix() {
        EmbossPress p = new EmbossPress();
        for (int i = 1; i <= 20; i++) {
            p.point(0, 0, 0, i % 10);
            Check.due("saved states", p.count(13), Math.min(i, 6));
        }
        for (int i = 19; i >= 14; i--) {
            Check.due("undo", p.undo(), i - 14);
            Check.due("undone to", p.dieOf(0, 0, 0, 0), i % 10);
        }
        Check.dueIllegalState(p, "the oldest ones are dropped", p::undo);
        for (int i = 1; i <= 4; i++) {
            p.point(1, 0, 0, i);
        }
        p.undo();
        p.point(1, 0, 0, 8);
        Check.due("undo", p.undo(), 3);
        Check.due("undone to", p.dieOf(1, 0, 0, 0), 3);
    }

    private static void everyUndoableCallSaves() {
        EmbossPress p = new EmbossPress();
        p.point(0, 0, 0, 0);
        p.cast(0, 0, 0);
        p.sheet();
        p.pin();
        p.foil(1, 0, 0, 0, 0);
        Check.due("five states", p.count(13), 5);
        for (int i = 0; i < 5; i++) {
            p.undo();
        }
        p.press(0, 0, 0, 0);
        p.fold(1);
        p.set(0, 12);
        Check.loadText(p, 0, ".");
        p.keep(0);
        p.goBack(0);
        Check.due("five states", p.count(13), 5);
        p.append(49);
        p.firstError();
        p.clearBuffer();
        p.keep(1);
        p.ifPressed(0, 0, 0, 0);
        p.gentlest(0, 0);
        p.ifFolded(1);
        p.bestFold();
        p.alike(0, 1);
        p.needed(0, 0, 0, 0);
        p.wholeShare();
        p.digest();
        Check.due("no more", p.count(13), 5);
    }

    private static void undoIsNotUndoable() {
        EmbossPress p = new EmbossPress();
        p.point(0, 0, 0, 1);
        p.point(0, 0, 0, 2);
        Check.due("undo", p.undo(), 1);
        Check.due("undo", p.undo(), 0);
        Check.due("undone", p.dieOf(0, 0, 0, 0), 0);
        Check.dueIllegalState(p, "undo", p::undo);
    }

    private static void wrongInputs() {
        EmbossPress p = new EmbossPress();
        for (int slot : new int[] {2, -1, Integer.MAX_VALUE}) {
            Check.dueIllegal(p, "keep " + slot, () -> p.keep(slot));
            Check.dueIllegal(p, "goBack " + slot, () -> p.goBack(slot));
        }
        Check.dueIllegalState(p, "goBack 0", () -> p.goBack(0));
        p.keep(1);
        Check.dueIllegalState(p, "goBack 0", () -> p.goBack(0));
        Check.due("goBack 1", p.goBack(1), 0);
    }
}
