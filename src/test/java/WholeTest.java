/** Promises 27 wholeShare, 28 digest. */
public final class WholeTest {
    public static void main(String[] args) {
        wholeShareTells();
        digestOfStates();
        digestOfEveryShare();
        digestChangesNothing();
        Check.end();
    }

    private static void wholeShareTells() {
        EmbossPress p = new EmbossPress();
        Check.dueShare("a new sheet", p.wholeShare(), 1.0);
        Check.pressPoint(p, 5, 5, 9);
        Check.dueShare("one crack", p.wholeShare(), 143.0 / 144);
        p.sheet();
        Check.dueShare("a new sheet", p.wholeShare(), 1.0);
        crackAll(p);
        Check.dueShare("all cracked", p.wholeShare(), 0.0);
        p.undo();
    }

    /** A chequered sheet whose places bear nothing. */
    private static void crackAll(EmbossPress p) {
        p.set(0, 99);
        Check.loadText(p, 0, "5.5.5/.5.5./5.5.5/.5.5./5.5.5");
        p.press(0, 0, 0, 0);
        p.press(0, 6, 0, 0);
        p.press(0, 0, 6, 0);
        p.press(0, 6, 6, 0);
        p.press(0, 7, 7, 0);
        p.press(0, 7, 1, 0);
        p.press(0, 1, 7, 0);
        p.press(0, 4, 4, 0);
        p.press(0, 4, 0, 0);
        p.press(0, 0, 4, 0);
        p.press(0, 4, 6, 0);
        p.press(0, 6, 4, 0);
        p.set(0, 0);
        p.fold(1);
    }

    /** One object after another, each with a step more behind it. */
    private static EmbossPress inState(int steps) {
        EmbossPress p = new EmbossPress();
        for (int step = 1; step <= steps; step++) {
            takeStep(p, step);
        }
        return p;
    }

    private static void takeStep(EmbossPress p, int step) {
        switch (step) {
            case 1 -> {
                Check.loadText(p, 0, "12345/.9/8.8");
                Check.loadText(p, 1, "8.8../.9.../12345");
                Check.loadText(p, 2, "1/2/3");
            }
            case 2 -> {
                p.foil(5, 1, 2, 8, 9);
                p.set(3, 1);
            }
            case 3 -> {
                p.press(0, 2, 2, 0);
                p.press(1, 5, 6, 3);
                p.press(1, 9, 9, 3);
            }
            case 4 -> {
                p.keep(1);
                Check.type(p, "1~!");
            }
            case 5 -> {
                p.keep(0);
                p.fold(4);
                p.sheet();
            }
            default -> {
                p.undo();
                p.undo();
                p.clearBuffer();
            }
        }
    }

    private static void digestOfStates() {
        int[] slots = {0, 0, 0, 0, 2, 3, 3};
        String[] texts = {"", "", "", "", "1~!", "1~!", ""};
        for (int steps = 0; steps < slots.length; steps++) {
            int taken = steps;
            Check.dueHash("state " + steps, () -> inState(taken), slots[steps], texts[steps]);
        }
    }

    /** A point in a corner cracks three places, one more beside it two, and so on. */
    private static EmbossPress pointByPoint(int presses) {
        EmbossPress p = new EmbossPress();
        p.set(0, 0);
        p.set(1, 0);
        p.point(2, 0, 0, 1);
        for (int i = 0; i < presses; i++) {
            p.press(2, i % 12, i / 12, 0);
        }
        return p;
    }

    private static void digestOfEveryShare() {
        EmbossPress all = new EmbossPress();
        crackAll(all);
        Check.due("no place is whole", all.count(4), 144);
        for (int presses = 0; presses <= 144; presses++) {
            int made = presses;
            Check.dueHash(presses + " points", () -> pointByPoint(made), 0, "");
        }
    }

    private static void digestChangesNothing() {
        EmbossPress p = new EmbossPress();
        Check.pressPoint(p, 3, 3, 9);
        Check.type(p, "12");
        Check.due("digest twice", p.digest(), p.digest());
        Check.due("saved states", p.count(13), 2);
        Check.due("presses", p.count(0), 1);
        Check.due("buffer", p.clearBuffer(), 2);
    }
}
