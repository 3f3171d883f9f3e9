/** Promises 27 wholeShare, 28 digest. */
public final class WholeTest {
    public static void main(String[] args) {
        wholeShareTells();
        digestOfStates();
        digestOfEveryShare();
        digestChangesNothing();
        Check.end();
    }

    private static void wholeShareTells() {
        EmbossPress p = new EmbossPress();
        Check.dueShare("a new sheet", p.wholeShare(), 1.0);
        Check.pressPoint(p, 5, 5, 9);
        Check.dueShare("one crack", p.wholeShare(), 143.0 / 144);
        p.sheet();
        Check.dueShare("a new sheet", p.wholeShare(), 1.0);
        crackAll(p);
        Check.dueShare("all cracked", p.wholeShare(), 0.0);
        p.undo();
    }

    /** A chequered sheet whose places bear nothing. */
    private static void crackAll(EmbossPress p) {
        p.set(0, 99);
        Check.loadText(p, 0, "5.5.5/.5.5./5.5.5/.5.5./5.5.5");
        p.press(0, 0, 0, 0);
        p.press(0, 6, 0, 0);
        p.press(0, 0, 6, 0);
        p.press(0, 6, 6, 0);
        p.press(0, 7, 7, 0);
        p.press(0, 7, 1, 0);
        p.press(0, 1, 7, 0);
        p.press(0, 4, 4, 0);
        p.press(0, 4, 0, 0);
        p.press(0, 0, 4, 0);
        p.press(0, 4, 6, 0);
        p.press(0, 6, 4, 0);
        p.set(0, 0);
        p.fold(1);
    }

    /** The hash as the document tells it, by the calls of the face alone. */
    private static long hashOf(EmbossPress p, int slotsTaken, String text) {
        long hash = 3319;
        for (int what = 0; what <= 13; what++) {
            hash = 31 * hash + p.count(what);
        }
        for (int i = 0; i < 4; i++) {
            hash = 31 * hash + p.setting(i);
        }
        for (int die = 0; die < 3; die++) {
            for (int point = 0; point < 25; point++) {
                hash = 31 * hash + p.dieOf(die, point % 5, point / 5, 0);
            }
        }
        for (int place = 0; place < 144; place++) {
            for (int what = 0; what <= 6; what++) {
                hash = 31 * hash + p.place(place % 12, place / 12, what);
            }
        }
        for (int die = 0; die < 3; die++) {
            hash = 31 * hash + p.ifPressed(die, 3, 4, 0);
            hash = 31 * hash + p.gentlest(die, 0);
            hash = 31 * hash + p.alike(die, 0);
            hash = 31 * hash + p.needed(die, 3, 4, 0);
        }
        for (int row = 1; row <= 11; row++) {
            hash = 31 * hash + p.ifFolded(row);
        }
        hash = 31 * hash + p.bestFold();
        hash = 31 * hash + Double.doubleToLongBits(p.wholeShare());
        hash = 31 * hash + (slotsTaken & 1);
        hash = 31 * hash + (slotsTaken >> 1 & 1);
        hash = 31 * hash + text.length();
        for (int i = 0; i < text.length(); i++) {
            hash = 31 * hash + text.charAt(i);
        }
        return hash;
    }

    private static void digestOfStates() {
        EmbossPress p = new EmbossPress();
        Check.due("digest of a new object", p.digest(), hashOf(p, 0, ""));
        Check.loadText(p, 0, "12345/.9/8.8");
        Check.loadText(p, 1, "8.8../.9.../12345");
        Check.loadText(p, 2, "1/2/3");
        Check.due("digest with dies", p.digest(), hashOf(p, 0, ""));
        p.foil(5, 1, 2, 8, 9);
        p.set(3, 1);
        Check.due("digest with ready foil", p.digest(), hashOf(p, 0, ""));
        p.press(0, 2, 2, 0);
        p.press(1, 5, 6, 3);
        p.press(1, 9, 9, 3);
        Check.due("digest with cracks and a slip", p.digest(), hashOf(p, 0, ""));
        p.keep(1);
        Check.type(p, "1~!");
        Check.due("digest with a slot and a text", p.digest(), hashOf(p, 2, "1~!"));
        p.keep(0);
        p.fold(4);
        p.sheet();
        Check.due("digest with both slots", p.digest(), hashOf(p, 3, "1~!"));
        p.undo();
        p.undo();
        p.clearBuffer();
        Check.due("digest behind undo", p.digest(), hashOf(p, 3, ""));
    }

    private static void digestOfEveryShare() {
        EmbossPress p = new EmbossPress();
        crackAll(p);
        Check.due("no place is whole", p.count(4), 144);
        Check.due("digest of share 0", p.digest(), hashOf(p, 0, ""));
        p.sheet();
        p.set(0, 0);
        p.set(1, 0);
        Check.loadText(p, 2, "1");
        // A point in a corner cracks three places, one more beside it two, and so on.
        for (int i = 0; i < 144; i++) {
            p.press(2, i % 12, i / 12, 0);
            Check.due("digest of share " + p.wholeShare(), p.digest(), hashOf(p, 0, ""));
        }
    }

    private static void digestChangesNothing() {
        EmbossPress p = new EmbossPress();
        Check.pressPoint(p, 3, 3, 9);
        Check.type(p, "12");
        Check.due("digest twice", p.digest(), p.digest());
        Check.due("saved states", p.count(13), 2);
        Check.due("presses", p.count(0), 1);
        Check.due("buffer", p.clearBuffer(), 2);
    }
}
