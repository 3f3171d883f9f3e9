/**
 * The edges that the document's "Terms" name from the settings on: settings, input text, snapshots
 * and undo, exceptions. Each sentence has a test of its own, which fails if just it is broken.
 */
public final class StateEdgesTest {
    private static final String FULL_DIE = "99999/99999/99999/99999/99999";

    public static void main(String[] args) {
        settings();
        inputText();
        snapshotsAndUndo();
        exceptions();
        Check.end();
    }

    private static void settings() {
        Check.sentence("0: what places bear, 0 to 99, at first 12", () -> dueRange(0, 0, 99, 12));
        Check.sentence("1: what a cracked neighbour takes from that, 0 to 20, at first 3", () -> dueRange(1, 0, 20, 3));
        Check.sentence("2: how deep a point may be, 1 to 9, at first 9", () -> dueRange(2, 1, 9, 9));
        Check.sentence("3: presses behind which the sheet slips, 0 to 9, at first 0", () -> dueRange(3, 0, 9, 0));
        Check.sentence("(Changed settings crack nothing at once.)", StateEdgesTest::settingsCrackNothing);
    }

    private static void inputText() {
        Check.sentence("The buffer has at most 40 characters.", StateEdgesTest::fortyCharacters);
        Check.sentence("A die as a text is one to five rows with \"/\" between them", StateEdgesTest::oneToFiveRows);
        Check.sentence("each of 1 to 5 signs: digits, or \".\" for 0", StateEdgesTest::oneToFiveSigns);
        Check.sentence("rows that are missing at the bottom, and points that are missing on the right, have 0",
                StateEdgesTest::missingPoints);
        Check.sentence("The buffer is read from left to right; a character is a syntax error if no die as a text begins with "
                + "the characters before it and this character.", StateEdgesTest::syntaxErrors);
    }

    private static void snapshotsAndUndo() {
        Check.sentence("There are two slots; a snapshot is all but the buffer, the slots and the saved states.",
                StateEdgesTest::snapshots);
        Check.sentence("Each method that is marked \"undoable\" and does not throw an exception saves the state from before it "
                + "(also if it changes nothing, or is refused)", StateEdgesTest::undoableCalls);
        Check.sentence("all, also what is counted so far, but the buffer, the slots and the saved states",
                StateEdgesTest::undoneCounts);
        Check.sentence("At most 6 states are saved; the oldest one is dropped first.", StateEdgesTest::sixStates);
    }

    private static void exceptions() {
        Check.sentence("A call that throws an exception changes nothing.", StateEdgesTest::refusedCallsChangeNothing);
        Check.sentence("If several exceptions apply, the one that is named first in the throws clause is thrown.",
                StateEdgesTest::firstNamedException);
    }

    // ---- settings

    private static void dueRange(int setting, int least, int greatest, int first) {
        EmbossPress p = new EmbossPress();
        Check.due("at first", p.setting(setting), first);
        int before = first;
        for (int value = least; value <= greatest; value++) {
            Check.due("set to " + value, p.set(setting, value), before);
            Check.due("setting", p.setting(setting), value);
            before = value;
        }
        for (int value : new int[] {least - 1, greatest + 1, Integer.MIN_VALUE, Integer.MAX_VALUE}) {
            Check.dueIllegal(p, "set to " + value, () -> p.set(setting, value));
        }
        EmbossPress q = new EmbossPress();
        q.set(setting, least);
        for (int other = 0; other < 4; other++) {
            Check.due("the others stay", q.setting(other), other == setting ? least : new int[] {12, 3, 9, 0}[other]);
        }
    }

    private static void settingsCrackNothing() {
        EmbossPress p = Check.sheetOf(Check.chequered('9'));
        p.set(0, 36);
        p.set(1, 20);
        Check.due("all hold", p.fold(1), 0);
        p.set(0, 0);
        Check.due("none has cracked at once", p.count(4), 0);
        Check.due("none has cracked so far", p.count(10), 0);
        Check.due("nor does the pin crack them", p.pin(), 0);
        Check.due("nor a refused press", p.press(1, 0, 0, 0), 3);
        Check.due("none has cracked", p.count(4), 0);
        Check.due("but the next press does", p.press(2, 0, 0, 0), 244);
        EmbossPress q = new EmbossPress();
        Check.pressPoint(q, 5, 5, 9);
        q.set(1, 20);
        Check.due("beside a crack none has cracked at once", q.count(4), 1);
        Check.due("what places bear is another at once", q.place(5, 4, 4), 0);
        Check.due("but the next press does", Check.pressPoint(q, 0, 0, 1), 104);
    }

    // ---- input text

    private static void fortyCharacters() {
        EmbossPress p = new EmbossPress();
        for (int i = 1; i <= 40; i++) {
            Check.due("character " + i, p.append('1'), i);
        }
        Check.dueIllegalState(p, "character 41", () -> p.append('1'));
        Check.due("40 characters", p.clearBuffer(), 40);
        Check.due("room again", p.append('2'), 1);
        Check.due("what was cleared tells nothing", p.load(0), 1);
        Check.dueOutcome("the die", Check.dieText(p, 0, 0), "20000/00000/00000/00000/00000");
    }

    private static void dueText(String text, int firstError, boolean isDie) {
        EmbossPress p = new EmbossPress();
        Check.loadText(p, 1, FULL_DIE);
        Check.type(p, text);
        Check.due("firstError of " + text, p.firstError(), firstError);
        if (isDie) {
            Check.due("load of " + text, p.load(1), text.replaceAll("[./0]", "").length());
            Check.due("buffer behind it", p.clearBuffer(), 0);
        } else {
            Check.dueIllegal(p, "load of " + text, () -> p.load(1));
            Check.due("buffer behind it", p.clearBuffer(), text.length());
        }
    }

    private static void oneToFiveRows() {
        dueText("", 0, false);
        dueText("1", 1, true);
        dueText("1/2", 3, true);
        dueText("1/2/3", 5, true);
        dueText("1/2/3/4", 7, true);
        dueText("1/2/3/4/5", 9, true);
        dueText("1/2/3/4/5/", 9, false);
        dueText("1/2/3/4/5/6", 9, false);
        dueText("1/", 2, false);
        dueText("1/2/3/4/", 8, false);
        dueText("12345/12345/12345/12345/12345", 29, true);
        dueText("12345/12345/12345/12345/12345/", 29, false);
        dueText("12345/12345/12345/12345/12345/12345", 29, false);
    }

    private static void oneToFiveSigns() {
        dueText("12", 2, true);
        dueText("12345", 5, true);
        dueText("123456", 5, false);
        dueText(".....", 5, true);
        dueText("......", 5, false);
        dueText("1/12345", 7, true);
        dueText("1/123456", 7, false);
        dueText("1/2/3/4/12345", 13, true);
        dueText("1/2/3/4/123456", 13, false);
        dueText("/1", 0, false);
        dueText("1//2", 2, false);
        dueText("1/2/3//4", 6, false);
        for (int code = 33; code <= 126; code++) {
            boolean sign = code == '.' || code >= '0' && code <= '9';
            String text = Character.toString((char) code);
            dueText(text, sign ? 1 : 0, sign);
            dueText("1" + text, sign || code == '/' ? 2 : 1, sign);
            dueText("1/" + text, sign ? 3 : 2, sign);
        }
    }

    private static void dueLoaded(String text, String die) {
        EmbossPress p = new EmbossPress();
        Check.loadText(p, 1, FULL_DIE);
        Check.loadText(p, 1, text);
        Check.dueOutcome("die of " + text, Check.dieText(p, 1, 0), die);
        Check.dueOutcome("die 0", Check.dieText(p, 0, 0), "00000/00000/00000/00000/00000");
        Check.dueOutcome("die 2", Check.dieText(p, 2, 0), "00000/00000/00000/00000/00000");
    }

    private static void missingPoints() {
        dueLoaded("7", "70000/00000/00000/00000/00000");
        dueLoaded("1234", "12340/00000/00000/00000/00000");
        dueLoaded("12345/6", "12345/60000/00000/00000/00000");
        dueLoaded("./.1/..2/...3", "00000/01000/00200/00030/00000");
        dueLoaded("....1/....2/....3/....4/....5", "00001/00002/00003/00004/00005");
        dueLoaded("0.0/1/2/3/4567", "00000/10000/20000/30000/45670");
        dueLoaded(".", "00000/00000/00000/00000/00000");
        dueLoaded("98765/43210/98765/43210/98765", "98765/43210/98765/43210/98765");
    }

    private static void syntaxErrors() {
        dueText("x/1", 0, false);
        dueText("1x2/3", 1, false);
        dueText("1/2x", 3, false);
        dueText("12345x", 5, false);
        dueText("123456x", 5, false);
        dueText("1//x", 2, false);
        dueText("1/2/3/4/5x", 9, false);
        dueText("1/2/3/4/5/x", 9, false);
        dueText("12345/12345/12345/12345/12345x", 29, false);
        dueText("1".repeat(40), 5, false);
        dueText("12345/12345/12345/12345/12345//////////!", 29, false);
        dueText("1/1/1/1/".repeat(5), 9, false);
    }

    // ---- snapshots and undo

    private static void snapshots() {
        for (int slot = 0; slot < 2; slot++) {
            EmbossPress p = Check.used();
            p.keep(slot);
            long before = p.digest();
            Check.spoil(p);
            Check.due("spoilt", p.digest() == before ? 1 : 0, 0);
            p.goBack(slot);
            Check.due("all is back", p.digest(), before);
            Check.due("the saved states are not", p.undo(), 5);
            Check.due("the latest one is from before goBack", p.count(9), 6);
            int other = 1 - slot;
            Check.dueIllegalState(p, "the other slot is empty", () -> p.goBack(other));
        }
        EmbossPress p = new EmbossPress();
        p.append('1');
        p.keep(0);
        p.append('2');
        p.point(0, 0, 0, 5);
        p.keep(1);
        p.goBack(0);
        Check.due("the buffer is no part of it", p.append('3'), 3);
        Check.due("nor is the other slot", p.goBack(1), 0);
        Check.due("which has its own state", p.dieOf(0, 0, 0, 0), 5);
        Check.due("saved: the point, and goBack twice", p.count(13), 3);
        for (int no : new int[] {-1, 2}) {
            Check.dueIllegal(p, "slot " + no, () -> p.keep(no));
            Check.dueIllegal(p, "slot " + no, () -> p.goBack(no));
        }
    }

    /** The call saves a state, and undo goes back to it; the text is typed once more behind it. */
    private static void dueUndone(EmbossPress p, String call, Check.Call made, String text) {
        Check.type(p, text);
        long before = p.digest();
        int saved = p.count(13);
        made.answer();
        Check.due(call + " saves a state", p.count(13), saved + 1);
        Check.due(call + " is undone", p.undo(), saved);
        Check.type(p, text);
        Check.due("all is as before " + call, p.digest(), before);
    }

    private static EmbossPress withFewStates() {
        EmbossPress p = Check.used();
        for (int i = 0; i < 5; i++) {
            p.undo();
        }
        Check.due("saved states", p.count(13), 1);
        return p;
    }

    private static void undoableCalls() {
        EmbossPress p = withFewStates();
        dueUndone(p, "point", () -> p.point(0, 4, 4, 9), "");
        dueUndone(p, "cast", () -> p.cast(1, 4, 4), "");
        dueUndone(p, "sheet", p::sheet, "");
        dueUndone(p, "pin", p::pin, "");
        dueUndone(p, "foil", () -> p.foil(9, 5, 5, 6, 6), "");
        dueUndone(p, "press", () -> p.press(2, 0, 0, 0), "");
        dueUndone(p, "a refused press", () -> p.press(2, 12, 0, 0), "");
        dueUndone(p, "fold", () -> p.fold(2), "");
        dueUndone(p, "set", () -> p.set(0, 0), "");
        dueUndone(p, "load", () -> p.load(0), "123");
        p.keep(0);
        dueUndone(p, "goBack", () -> p.goBack(0), "");
        EmbossPress q = new EmbossPress();
        q.keep(1);
        dueUndone(q, "point that changes nothing", () -> q.point(0, 0, 0, 0), "1");
        dueUndone(q, "cast that changes nothing", () -> q.cast(0, 0, 0), "1");
        dueUndone(q, "sheet that changes nothing else", q::sheet, "1");
        dueUndone(q, "pin that changes nothing", q::pin, "1");
        dueUndone(q, "press that is refused", () -> q.press(0, 0, 0, 0), "1");
        dueUndone(q, "fold that cracks nothing", () -> q.fold(1), "1");
        dueUndone(q, "set that changes nothing", () -> q.set(3, 0), "1");
        dueUndone(q, "load that changes nothing", () -> q.load(0), ".");
        dueUndone(q, "goBack that changes nothing", () -> q.goBack(1), "1");
        q.foil(2, 1, 1, 2, 2);
        dueUndone(q, "foil that changes nothing", () -> q.foil(2, 1, 1, 2, 2), "1");
        notUndoableCalls();
    }

    private static void notUndoableCalls() {
        EmbossPress p = new EmbossPress();
        p.append('1');
        p.firstError();
        p.clearBuffer();
        p.keep(0);
        p.dieOf(0, 0, 0, 0);
        p.place(0, 0, 0);
        p.count(0);
        p.setting(0);
        p.ifPressed(0, 0, 0, 0);
        p.gentlest(0, 0);
        p.ifFolded(1);
        p.bestFold();
        p.alike(0, 1);
        p.needed(0, 0, 0, 0);
        p.wholeShare();
        p.digest();
        Check.due("no state is saved", p.count(13), 0);
        Check.dueIllegalState(p, "undo", p::undo);
        p.pin();
        p.pin();
        p.undo();
        Check.due("undo saves no state", p.count(13), 1);
    }

    private static void undoneCounts() {
        EmbossPress p = new EmbossPress();
        p.sheet();
        Check.due("undone sheet", p.undo(), 0);
        Check.due("sheets so far", p.count(11), 1);
        p.fold(1);
        p.undo();
        Check.due("folds so far", p.count(12), 0);
        p.press(0, 0, 0, 0);
        p.undo();
        Check.due("presses refused so far", p.count(3), 0);
        p.set(3, 1);
        p.point(0, 0, 0, 9);
        p.press(0, 5, 5, 0);
        Check.due("cracks so far", p.count(10), 1);
        p.append('7');
        p.keep(0);
        p.undo();
        Check.due("presses so far", p.count(0), 0);
        Check.due("presses since it was pinned", p.count(1), 0);
        Check.due("slip", p.count(2), 0);
        Check.due("cracks so far", p.count(10), 0);
        Check.due("pressed so far on this sheet", p.place(5, 5, 6), 0);
        Check.due("the buffer stays", p.clearBuffer(), 1);
        Check.due("the slot stays", p.goBack(0), 1);
        Check.due("with all that was counted so far", p.count(10), 1);
        Check.due("with all that was counted so far", p.count(2), 1);
        Check.due("with all that was counted so far", p.place(5, 5, 6), 1);
    }

    private static void sixStates() {
        for (int calls = 1; calls <= 14; calls++) {
            EmbossPress p = new EmbossPress();
            for (int i = 1; i <= calls; i++) {
                p.set(0, i);
                Check.due("saved states", p.count(13), Math.min(i, 6));
            }
            int saved = Math.min(calls, 6);
            for (int i = 1; i <= saved; i++) {
                Check.due("undo", p.undo(), saved - i);
                Check.due("undone to", p.setting(0), calls == i ? 12 : calls - i);
            }
            Check.dueIllegalState(p, "undo behind the oldest one", p::undo);
            p.set(0, 70);
            p.set(0, 80);
            p.undo();
            Check.due("saved anew", p.setting(0), 70);
        }
        EmbossPress p = new EmbossPress();
        for (int i = 0; i < 6; i++) {
            p.set(0, i);
        }
        p.goBack(keptIn(p, 1));
        Check.due("goBack saves, too", p.count(13), 6);
        for (int left = 5; left >= 0; left--) {
            p.undo();
        }
        Check.due("so that the first state is dropped", p.setting(0), 0);
    }

    private static int keptIn(EmbossPress p, int slot) {
        p.keep(slot);
        return slot;
    }

    // ---- exceptions

    private static void refusedChanges(EmbossPress p) {
        Check.dueOutOfBounds(p, "point", () -> p.point(3, 0, 0, 1));
        Check.dueIllegal(p, "point", () -> p.point(0, 0, 0, 10));
        Check.dueOutOfBounds(p, "cast", () -> p.cast(0, 12, 0));
        Check.dueOutOfBounds(p, "foil", () -> p.foil(1, 0, 0, 12, 0));
        Check.dueIllegal(p, "foil", () -> p.foil(10, 0, 0, 0, 0));
        Check.dueIllegal(p, "foil", () -> p.foil(1, 1, 0, 0, 0));
        Check.dueOutOfBounds(p, "press", () -> p.press(3, 0, 0, 0));
        Check.dueIllegal(p, "press", () -> p.press(0, 0, 0, 8));
        Check.dueOutOfBounds(p, "fold", () -> p.fold(12));
        Check.dueOutOfBounds(p, "set", () -> p.set(4, 0));
        Check.dueIllegal(p, "set", () -> p.set(0, 100));
        Check.dueIllegal(p, "append", () -> p.append(127));
        Check.dueIllegalState(p, "append", () -> p.append('1'));
        Check.dueOutOfBounds(p, "load", () -> p.load(3));
        Check.dueIllegal(p, "load", () -> p.load(0));
        Check.dueIllegal(p, "keep", () -> p.keep(2));
        Check.dueIllegal(p, "goBack", () -> p.goBack(2));
    }

    private static void refusedLooks(EmbossPress p) {
        Check.dueOutOfBounds(p, "dieOf", () -> p.dieOf(0, 5, 0, 0));
        Check.dueIllegal(p, "dieOf", () -> p.dieOf(0, 0, 0, 8));
        Check.dueOutOfBounds(p, "place", () -> p.place(12, 0, 0));
        Check.dueIllegal(p, "place", () -> p.place(0, 0, 7));
        Check.dueIllegal(p, "count", () -> p.count(14));
        Check.dueOutOfBounds(p, "setting", () -> p.setting(4));
        Check.dueOutOfBounds(p, "ifPressed", () -> p.ifPressed(3, 0, 0, 0));
        Check.dueIllegal(p, "ifPressed", () -> p.ifPressed(0, 0, 0, 8));
        Check.dueOutOfBounds(p, "gentlest", () -> p.gentlest(3, 0));
        Check.dueIllegal(p, "gentlest", () -> p.gentlest(0, 8));
        Check.dueOutOfBounds(p, "ifFolded", () -> p.ifFolded(12));
        Check.dueOutOfBounds(p, "alike", () -> p.alike(0, 3));
        Check.dueOutOfBounds(p, "needed", () -> p.needed(3, 0, 0, 0));
        Check.dueIllegal(p, "needed", () -> p.needed(0, 0, 0, 8));
    }

    private static void refusedCallsChangeNothing() {
        EmbossPress p = Check.used();
        p.keep(0);
        p.sheet();
        p.keep(1);
        for (int i = 1; i <= 6; i++) {
            p.set(0, 20 + i);
        }
        Check.type(p, "1".repeat(40));
        long before = p.digest();
        refusedChanges(p);
        refusedLooks(p);
        Check.due("the whole object", p.digest(), before);
        // What the digest does not tell: the saved states and the snapshots themselves.
        for (int i = 5; i >= 0; i--) {
            Check.due("saved states", p.undo(), i);
            Check.due("saved state", p.setting(0), i == 0 ? 12 : 20 + i);
        }
        Check.dueIllegalState(p, "undo", p::undo);
        Check.due("slot 1", p.goBack(1), 3);
        Check.due("slot 1", p.count(11), 3);
        Check.due("slot 0", p.goBack(0), 3);
        Check.due("slot 0", p.count(11), 2);
        EmbossPress q = new EmbossPress();
        Check.dueIllegalState(q, "undo", q::undo);
        Check.dueIllegalState(q, "goBack", () -> q.goBack(0));
        Check.due("nothing is saved", q.count(13), 0);
    }

    private static void firstNamedException() {
        EmbossPress p = new EmbossPress();
        Check.dueOutOfBounds(p, "point: point, depth", () -> p.point(0, 5, 0, 10));
        Check.dueOutOfBounds(p, "point: die, depth", () -> p.point(-1, 0, 0, -1));
        Check.dueOutOfBounds(p, "foil: place, foil", () -> p.foil(10, 0, 0, 0, 12));
        Check.dueOutOfBounds(p, "foil: place, corners", () -> p.foil(1, 1, 0, -1, 0));
        Check.dueOutOfBounds(p, "foil: place, corners", () -> p.foil(1, 0, 12, 0, 11));
        Check.dueOutOfBounds(p, "press: die, turn", () -> p.press(3, 0, 0, 8));
        Check.dueOutOfBounds(p, "set: setting, value", () -> p.set(-1, 100));
        Check.dueOutOfBounds(p, "load: die, text", () -> p.load(3));
        Check.dueIllegal(p, "goBack: slot, no snapshot", () -> p.goBack(2));
        Check.dueOutOfBounds(p, "dieOf: point, turn", () -> p.dieOf(0, 0, -1, 8));
        Check.dueOutOfBounds(p, "dieOf: die, turn", () -> p.dieOf(3, 0, 0, -1));
        Check.dueOutOfBounds(p, "place: place, what", () -> p.place(0, 12, 7));
        Check.dueOutOfBounds(p, "ifPressed: die, turn", () -> p.ifPressed(-1, 0, 0, 8));
        Check.dueOutOfBounds(p, "gentlest: die, turn", () -> p.gentlest(3, -1));
        Check.dueOutOfBounds(p, "needed: die, turn", () -> p.needed(3, 0, 0, 8));
        Check.type(p, "1".repeat(40));
        Check.dueIllegal(p, "append: code, 40 characters", () -> p.append(32));
        Check.dueIllegal(p, "append: code, 40 characters", () -> p.append(127));
    }
}
