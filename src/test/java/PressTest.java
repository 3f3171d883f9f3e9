/** Promises 7 press, 21 ifPressed, 22 gentlest, 26 needed. */
public final class PressTest {
    private static final String FULL = "55555/55555/55555/55555/55555";

    public static void main(String[] args) {
        pressDeepensPlaces();
        pressTurns();
        pressIsRefused();
        refusedPressChangesOnlyItsCount();
        pressSticksFoil();
        pressCracksInRounds();
        pressSlips();
        ifPressedTellsAndChangesNothing();
        wrongInputsOfPressAndLooks();
        gentlestFindsLeastHarm();
        gentlestAmongRefusals();
        neededFindsStrength();
        neededAtTheLimit();
        neededBesideCracks();
        pressAtEveryPlace();
        harmEverywhere();
        Check.end();
    }

    private static EmbossPress strong() {
        EmbossPress p = new EmbossPress();
        p.set(0, 99);
        return p;
    }

    private static void pressDeepensPlaces() {
        EmbossPress p = strong();
        Check.loadText(p, 0, "3.5/.7");
        Check.due("press", p.press(0, 4, 6, 0), 100);
        Check.due("place", p.place(4, 6, 0), 3);
        Check.due("place", p.place(5, 6, 0), 0);
        Check.due("place", p.place(6, 6, 0), 5);
        Check.due("place", p.place(5, 7, 0), 7);
        Check.due("pressed by a point without depth", p.place(5, 6, 6), 0);
        Check.due("pressed", p.place(6, 6, 6), 1);
        Check.loadText(p, 1, "44444");
        p.press(1, 4, 6, 0);
        Check.due("deeper", p.place(4, 6, 0), 4);
        Check.due("deeper", p.place(5, 6, 0), 4);
        Check.due("not less deep", p.place(6, 6, 0), 5);
        Check.due("pressed though not deepened", p.place(6, 6, 6), 2);
        Check.due("presses", p.count(0), 2);
        Check.due("presses since pinned", p.count(1), 2);
        p.undo();
        Check.due("undone press", p.place(4, 6, 0), 3);
        Check.due("undone press", p.place(4, 6, 6), 1);
        Check.due("undone press", p.count(0), 1);
    }

    private static void pressTurns() {
        for (int turn = 0; turn < 8; turn++) {
            EmbossPress p = strong();
            Check.loadText(p, 0, "12345/6../7/8/9");
            Check.due("press turned", p.press(0, 2, 3, turn), 100);
            p.cast(1, 2, 3);
            Check.dueOutcome("relief of turn " + turn, Check.dieText(p, 1, 0),
                    Check.dieText(p, 0, turn));
        }
    }

    private static void pressIsRefused() {
        EmbossPress p = strong();
        Check.due("no depth", p.press(0, 0, 0, 0), 3);
        Check.due("no depth, off the sheet", p.press(0, 50, -50, 0), 3);
        Check.loadText(p, 0, "1..../...../...../...../....2");
        p.set(2, 1);
        Check.due("too deep", p.press(0, 0, 0, 0), 2);
        Check.due("off the sheet and too deep", p.press(0, 8, 0, 0), 1);
        p.set(2, 2);
        Check.due("just deep enough", p.press(0, 7, 7, 0), 100);
        Check.due("off to the right", p.press(0, 8, 7, 0), 1);
        Check.due("off below", p.press(0, 7, 8, 0), 1);
        Check.due("off to the left", p.press(0, -1, 0, 0), 1);
        Check.due("off above", p.press(0, 0, -1, 0), 1);
        Check.loadText(p, 1, "./././../....1");
        Check.due("points without depth may be off", p.press(1, -4, -4, 0), 100);
        Check.due("pressed there", p.place(0, 0, 0), 1);
        Check.due("off by one", p.press(1, -5, -4, 0), 1);
        Check.due("off by one", p.press(1, -4, -5, 0), 1);
        Check.loadText(p, 2, "1");
        Check.due("at the corner", p.press(2, 11, 11, 0), 100);
        Check.due("far", p.press(2, Integer.MAX_VALUE, 0, 0), 1);
        Check.due("far", p.press(2, Integer.MIN_VALUE, 0, 0), 1);
        Check.due("far", p.press(2, 0, Integer.MAX_VALUE, 0), 1);
        Check.due("far", p.press(2, 0, Integer.MIN_VALUE, 0), 1);
        Check.due("far", p.press(1, Integer.MAX_VALUE, Integer.MAX_VALUE, 0), 1);
    }

    private static void refusedPressChangesOnlyItsCount() {
        EmbossPress p = strong();
        p.set(3, 1);
        p.foil(3, 0, 0, 11, 11);
        String depths = Check.places(p, 0);
        Check.due("refused", p.press(0, 0, 0, 0), 3);
        Check.due("refused is counted", p.count(3), 1);
        Check.due("refused is no press", p.count(0), 0);
        Check.due("refused is no press", p.count(1), 0);
        Check.due("refused slips nothing", p.count(2), 0);
        Check.due("refused takes no foil", p.count(9), 3);
        Check.dueOutcome("refused presses nothing", Check.places(p, 0), depths);
        Check.due("refused is saved", p.count(13), 4);
        p.undo();
        Check.due("undone refusal", p.count(3), 0);
        EmbossPress q = new EmbossPress();
        q.set(0, 36);
        Check.pressPoint(q, 5, 5, 9);
        q.set(0, 0);
        Check.due("refused", q.press(2, 12, 0, 0), 1);
        Check.due("refused cracks nothing", q.count(4), 0);
    }

    private static void pressSticksFoil() {
        EmbossPress p = strong();
        Check.loadText(p, 0, "1.1/111");
        p.foil(2, 5, 5, 6, 6);
        p.press(0, 5, 5, 0);
        Check.due("sticks", p.place(5, 5, 1), 2);
        Check.due("no point, no foil", p.place(6, 5, 1), 0);
        Check.due("not laid there", p.place(7, 5, 1), 0);
        Check.due("sticks", p.place(6, 6, 1), 2);
        Check.due("places with foil", p.count(8), 3);
        Check.due("none lies ready any more", p.count(9), 0);
        Check.due("none lies ready any more", p.place(5, 5, 5), 0);
        p.press(0, 5, 6, 0);
        Check.due("without foil it stays", p.place(5, 6, 1), 2);
        Check.due("places with foil", p.count(8), 3);
        p.foil(8, 5, 5, 5, 5);
        p.press(0, 5, 5, 0);
        Check.due("in place of the foil there", p.place(5, 5, 1), 8);
        Check.due("not in place of it elsewhere", p.place(6, 6, 1), 2);
        p.foil(9, 0, 0, 0, 0);
        p.press(0, 5, 5, 0);
        Check.due("a press beside it takes it, too", p.count(9), 0);
        Check.due("a press beside it sticks nothing", p.count(8), 3);
        EmbossPress q = strong();
        q.set(3, 1);
        Check.pressPoint(q, 0, 0, 1);
        q.foil(4, 5, 5, 5, 5);
        Check.pressPoint(q, 4, 5, 1);
        Check.due("the slip moves the die over the foil", q.place(5, 5, 1), 4);
    }

    private static void pressCracksInRounds() {
        EmbossPress p = new EmbossPress();
        Check.due("neighbours bear just enough", Check.pressPoint(p, 5, 5, 9), 101);
        p.sheet();
        p.set(1, 4);
        Check.due("neighbours crack then", Check.pressPoint(p, 5, 5, 9), 105);
        Check.due("cracked", p.place(5, 4, 2), 1);
        Check.due("not cracked", p.place(4, 4, 2), 0);
        Check.due("cracked ones crack no more", p.press(2, 5, 5, 0), 100);
        p.undo();
        p.undo();
        Check.due("undone cracks", p.count(4), 0);
        Check.due("undone cracks so far", p.count(10), 1);
        EmbossPress q = new EmbossPress();
        Check.due("as much as it bears", Check.pressPoint(q, 5, 5, 3), 100);
        Check.due("more than it bears", Check.pressPoint(q, 8, 8, 4), 101);
        Check.due("less at an edge", Check.pressPoint(q, 0, 6, 4), 100);
        Check.due("less in a corner", Check.pressPoint(q, 0, 0, 6), 100);
        Check.due("all at last", Check.pressPoint(q, 0, 11, 7), 101);
        // A row of steps that holds until its first place cracks, and then cracks to its end.
        EmbossPress r = strong();
        r.set(1, 0);
        Check.loadText(r, 0, "55555/55555/55555/55555/55555");
        r.press(0, 0, 0, 0);
        r.press(0, 0, 5, 0);
        r.press(0, 0, 7, 0);
        r.set(0, 6);
        r.set(1, 2);
        Check.due("the step holds", Check.pressPoint(r, 11, 0, 1), 100);
        Check.due("a chain along the step", Check.pressPoint(r, 4, 0, 7), 100 + 24);
    }

    private static void pressSlips() {
        EmbossPress p = strong();
        Check.pressPoint(p, 0, 0, 1);
        Check.due("no slip with setting 3 as 0", p.count(2), 0);
        p.pin();
        p.set(3, 2);
        int[] slips = {0, 1, 1, 2, 2, 3, 3, 3, 3, 3};
        for (int i = 0; i < slips.length; i++) {
            Check.due("press", Check.pressPoint(p, 0, 1 + i, 1), 100);
            Check.due("slip behind press " + i, p.count(2), slips[i]);
            int slipBefore = i == 0 ? 0 : slips[i - 1];
            Check.due("pressed where it had slipped", p.place(slipBefore, 1 + i, 0), 1);
            Check.due("pressed once", p.place(slipBefore, 1 + i, 6), 1);
        }
        Check.due("on the sheet by the slip", Check.pressPoint(p, -3, 0, 1), 100);
        Check.due("off the sheet by the slip", Check.pressPoint(p, 9, 0, 1), 1);
        Check.due("still over the sheet", Check.pressPoint(p, 8, 0, 1), 100);
        Check.due("far", p.press(2, Integer.MAX_VALUE, 0, 0), 1);
        Check.due("far", p.press(2, Integer.MAX_VALUE - 2, 0, 0), 1);
        Check.due("pin", p.pin(), 3);
        // A changed setting 3 looks at the presses since the pin, not since the change.
        EmbossPress q = strong();
        Check.pressPoint(q, 0, 0, 1);
        Check.pressPoint(q, 0, 0, 1);
        q.set(3, 3);
        Check.pressPoint(q, 0, 0, 1);
        Check.due("the third press slips", q.count(2), 1);
    }

    private static void ifPressedTellsAndChangesNothing() {
        EmbossPress p = new EmbossPress();
        Check.loadText(p, 0, "9.9/.4/5...8");
        Check.loadText(p, 1, FULL);
        p.set(3, 1);
        p.foil(3, 2, 2, 8, 8);
        for (int i = 0; i < 24; i++) {
            int die = i % 3;
            int x = (i * 5) % 13 - 2;
            int y = (i * 7) % 12;
            int turn = i % 8;
            long before = p.digest();
            int told = p.ifPressed(die, x, y, turn);
            Check.due("ifPressed changes nothing", p.digest(), before);
            Check.due("ifPressed " + i, told, p.press(die, x, y, turn));
        }
    }

    private static void wrongInputsOfPressAndLooks() {
        EmbossPress p = new EmbossPress();
        p.point(0, 0, 0, 3);
        int[] noDie = {3, -1, Integer.MAX_VALUE};
        for (int die : noDie) {
            Check.dueOutOfBounds(p, "press die " + die, () -> p.press(die, 0, 0, 0));
            Check.dueOutOfBounds(p, "press die and turn", () -> p.press(die, 0, 0, 8));
            Check.dueOutOfBounds(p, "ifPressed die " + die, () -> p.ifPressed(die, 0, 0, 0));
            Check.dueOutOfBounds(p, "ifPressed die and turn", () -> p.ifPressed(die, 0, 0, -1));
            Check.dueOutOfBounds(p, "gentlest die " + die, () -> p.gentlest(die, 0));
            Check.dueOutOfBounds(p, "gentlest die and turn", () -> p.gentlest(die, 8));
            Check.dueOutOfBounds(p, "needed die " + die, () -> p.needed(die, 0, 0, 0));
            Check.dueOutOfBounds(p, "needed die and turn", () -> p.needed(die, 0, 0, 8));
        }
        int[] noTurn = {8, -1, Integer.MIN_VALUE};
        for (int turn : noTurn) {
            Check.dueIllegal(p, "press turn " + turn, () -> p.press(0, 0, 0, turn));
            Check.dueIllegal(p, "ifPressed turn " + turn, () -> p.ifPressed(0, 0, 0, turn));
            Check.dueIllegal(p, "gentlest turn " + turn, () -> p.gentlest(0, turn));
            Check.dueIllegal(p, "needed turn " + turn, () -> p.needed(0, 0, 0, turn));
        }
    }

    private static void gentlestFindsLeastHarm() {
        EmbossPress p = new EmbossPress();
        Check.loadText(p, 0, ".6");
        // Only in a corner does a point of 6 crack nothing; this one is over x + 1.
        Check.due("right corner", p.gentlest(0, 0), 10);
        // Turned once it is over (x + 4, y + 1), twice over (x + 3, y + 4).
        Check.due("lower corner", p.gentlest(0, 1), 1007);
        Check.due("lower corner", p.gentlest(0, 2), 708);
        // Mirrored it is over (x + 3, y), which no place of the sheet puts to the left corner.
        Check.due("right corner", p.gentlest(0, 4), 8);
        Check.due("gentlest changes nothing", p.count(13), 1);
        Check.loadText(p, 1, "7");
        Check.due("the same everywhere", p.gentlest(1, 0), 0);
        Check.due("pressed there", p.press(1, 0, 0, 0), 101);
        Check.due("cracked already", p.gentlest(1, 0), 0);
        p.sheet();
        Check.loadText(p, 2, "1");
        p.press(2, 0, 0, 0);
        p.press(2, 2, 0, 0);
        Check.loadText(p, 1, "5");
        Check.due("of several the least column", p.gentlest(1, 0), 0);
        p.set(0, 9);
        // The corner bears 9, and a 5 strains it with 10; between the ones an edge has 4 + 4 + 5.
        Check.due("all crack one", p.gentlest(1, 0), 0);
        Check.loadText(p, 1, "3");
        Check.due("a 3 beside a 1", p.gentlest(1, 0), 0);
        p.set(0, 5);
        p.set(1, 0);
        Check.due("an edge beside two ones: 2 + 2 + 3", p.ifPressed(1, 1, 0, 0), 101);
        Check.due("a corner has 6", p.ifPressed(1, 0, 0, 0), 101);
        p.set(0, 6);
        Check.due("the corner holds", p.gentlest(1, 0), 0);
    }

    private static void gentlestAmongRefusals() {
        EmbossPress p = new EmbossPress();
        Check.due("without depth", p.gentlest(0, 0), EmbossPress.NONE);
        Check.loadText(p, 0, "3");
        p.set(2, 2);
        Check.due("too deep", p.gentlest(0, 0), EmbossPress.NONE);
        p.set(2, 3);
        Check.due("deep enough", p.gentlest(0, 0), 0);
        Check.loadText(p, 1, "1/1/1/1/1....");
        p.set(0, 0);
        // All that is strained cracks: the line, what is right of it, and one place below.
        Check.due("harm of a line", p.ifPressed(1, 0, 0, 0), 111);
        Check.due("a line in a corner", p.gentlest(1, 0), 0);
        p.set(2, 9);
        p.set(3, 1);
        Check.loadText(p, 2, "5");
        p.set(0, 12);
        p.press(2, 5, 5, 0);
        Check.due("slip", p.count(2), 1);
        // With the slip the corner above on the left is out of reach from places of the sheet.
        Check.loadText(p, 2, "6");
        Check.due("with a slip", p.gentlest(2, 0), 10);
        p.point(2, 0, 0, 9);
        Check.due("with a slip, only at the crack nothing", p.gentlest(2, 0), 504);
    }

    private static void neededFindsStrength() {
        EmbossPress p = new EmbossPress();
        Check.loadText(p, 0, "9");
        Check.due("inside", p.needed(0, 5, 5, 0), 36);
        Check.due("edge", p.needed(0, 5, 0, 0), 27);
        Check.due("corner", p.needed(0, 0, 0, 0), 18);
        Check.due("turned to the corner", p.needed(0, -4, 0, 1), 18);
        Check.due("refused", p.needed(0, 12, 0, 0), EmbossPress.NONE);
        Check.due("refused", p.needed(1, 0, 0, 0), EmbossPress.NONE);
        p.set(2, 8);
        Check.due("refused", p.needed(0, 0, 0, 0), EmbossPress.NONE);
        p.set(2, 9);
        Check.due("press", p.press(0, 5, 5, 0), 101);
        Check.due("neighbours of a crack", p.needed(0, 5, 5, 0), 12);
        p.set(1, 20);
        Check.due("neighbours of a crack", p.needed(0, 5, 5, 0), 29);
        p.set(1, 0);
        Check.due("neighbours of a crack", p.needed(0, 5, 5, 0), 9);
        Check.due("elsewhere, too", p.needed(0, 0, 0, 0), 18);
        p.sheet();
        p.set(0, 99);
        p.press(0, 5, 5, 0);
        Check.due("strained already elsewhere", p.needed(0, 0, 0, 0), 36);
        Check.due("needed changes nothing", p.setting(0), 99);
        EmbossPress q = new EmbossPress();
        Check.loadText(q, 0, FULL);
        Check.loadText(q, 1, "55/55");
        q.set(0, 99);
        for (int[] at : new int[][] {{0, 0}, {5, 0}, {7, 0}, {0, 5}, {5, 5}, {7, 5}, {0, 7}, {5, 7}}) {
            q.press(0, at[0], at[1], 0);
        }
        Check.due("without any strain", q.needed(0, 7, 7, 0), 0);
    }

    /** A place that is whole, strained by the four cracked ones beside it. */
    private static EmbossPress amongCracks(int[] depths, int[] bears) {
        EmbossPress p = new EmbossPress();
        int[][] at = {{4, 5}, {6, 5}, {5, 4}, {5, 6}};
        p.set(1, 0);
        for (int i = 0; i < at.length; i++) {
            p.set(0, bears[i]);
            Check.due("one crack", Check.pressPoint(p, at[i][0], at[i][1], depths[i]), 101);
        }
        Check.due("whole", p.place(5, 5, 2), 0);
        p.set(1, 20);
        Check.loadText(p, 0, "1");
        return p;
    }

    private static void neededAtTheLimit() {
        EmbossPress p = amongCracks(new int[] {4, 5, 5, 5}, new int[] {15, 19, 19, 19});
        Check.due("strain", p.place(5, 5, 3), 19);
        Check.due("99 is just enough", p.needed(0, 0, 0, 0), 99);
        EmbossPress q = amongCracks(new int[] {4, 5, 5, 6}, new int[] {15, 19, 19, 20});
        Check.due("strain", q.place(5, 5, 3), 20);
        Check.due("100 cannot be set", q.needed(0, 0, 0, 0), EmbossPress.NONE);
        q.set(1, 19);
        Check.due("less is taken", q.needed(0, 0, 0, 0), 96);
        q.set(0, 96);
        Check.due("with that it cracks nothing", q.ifPressed(0, 0, 0, 0), 100);
        q.set(0, 95);
        Check.due("with less it cracks", q.ifPressed(0, 0, 0, 0) > 100 ? 1 : 0, 1);
    }

    private static void neededBesideCracks() {
        EmbossPress p = new EmbossPress();
        p.set(0, 3);
        p.set(1, 0);
        Check.due("a point of 1", Check.pressPoint(p, 5, 5, 1), 101);
        p.set(1, 20);
        Check.due("a strain of 1 beside a crack", p.needed(2, 5, 5, 0), 21);
        // Paper that bears nothing: all that is strained cracks, and what is left has no strain.
        p.set(0, 0);
        Check.due("the ones beside it", p.press(2, 5, 5, 0), 104);
        Check.due("no strain beside cracks", p.needed(2, 5, 5, 0), 0);
        EmbossPress q = strong();
        q.set(3, 1);
        Check.pressPoint(q, 5, 5, 1);
        Check.loadText(q, 0, "9");
        Check.due("slip", q.count(2), 1);
        Check.due("the corner, by the slip", q.needed(0, 10, 0, 0), 18);
        Check.due("an edge, by the slip", q.needed(0, 0, 0, 0), 27);
        Check.due("the corner, by the slip", q.needed(0, -1, 0, 0), 18);
        Check.due("off the sheet, by the slip", q.needed(0, 11, 0, 0), EmbossPress.NONE);
        Check.due("off the sheet, by the slip", q.ifPressed(0, 11, 0, 0), 1);
        Check.due("the corner, by the slip", q.ifPressed(0, -1, 11, 0), 100);
    }

    private static int neighbours(int x, int y) {
        return (x > 0 ? 1 : 0) + (x < 11 ? 1 : 0) + (y > 0 ? 1 : 0) + (y < 11 ? 1 : 0);
    }

    /** One point of 9 at each place: it cracks, and weakens just its neighbours. */
    private static void pressAtEveryPlace() {
        for (int y = 0; y < 12; y++) {
            for (int x = 0; x < 12; x++) {
                String at = " at " + x + " " + y;
                EmbossPress p = new EmbossPress();
                p.foil(1, 0, 0, 11, 11);
                Check.due("press" + at, Check.pressPoint(p, x, y, 9), 101);
                Check.due("greatest depth" + at, p.count(5), 9);
                Check.due("strain by places" + at, p.count(6), 18 * neighbours(x, y));
                Check.due("strain by pairs" + at, p.count(7), 18 * neighbours(x, y));
                Check.due("places with foil" + at, p.count(8), 1);
                for (int i = 0; i < 144; i++) {
                    int apart = Math.abs(i % 12 - x) + Math.abs(i / 12 - y);
                    Check.due("bears" + at, p.place(i % 12, i / 12, 4), apart == 1 ? 9 : 12);
                    Check.due("strain" + at, p.place(i % 12, i / 12, 3),
                            apart == 0 ? 9 * neighbours(x, y) : apart == 1 ? 9 : 0);
                }
                p.undo();
                p.set(1, 4);
                Check.due("weakened ones crack" + at, p.press(2, x, y, 0), 101 + neighbours(x, y));
            }
        }
    }

    private static void harmEverywhere() {
        EmbossPress p = strong();
        Check.loadText(p, 0, "5");
        for (int i = 0; i < 144; i++) {
            if ((i % 12 + i / 12) % 2 == 0) {
                p.press(0, i % 12, i / 12, 0);
            }
        }
        p.set(0, 0);
        Check.loadText(p, 0, "1");
        Check.due("all places crack", p.ifPressed(0, 5, 5, 0), 244);
        Check.due("still the first place is the gentlest", p.gentlest(0, 0), 0);
        Check.due("all places crack", p.press(0, 5, 5, 0), 244);
        Check.due("no place is left to crack", p.ifPressed(0, 5, 5, 0), 100);
    }
}
