/**
 * The edges that the document's "Terms" name up to the settings: dies, the sheet, presses, foils,
 * folds. Each sentence has a test of its own, which fails if just that sentence is broken.
 */
public final class TermsEdgesTest {
    public static void main(String[] args) {
        general();
        dies();
        sheet();
        presses();
        foilsAndFolds();
        Check.end();
    }

    private static void general() {
        Check.sentence("An object is used for at most 512 calls after it has been made",
                TermsEdgesTest::callsTo512);
        Check.sentence("`NONE = -1`: There is nothing to return.",
                () -> Check.due("NONE", EmbossPress.NONE, -1));
        Check.sentence("All numbers are integers, but for a share; divisions are rounded down.",
                TermsEdgesTest::roundedDown);
    }

    private static void dies() {
        Check.sentence("There are 3 dies, numbered from 0", TermsEdgesTest::threeDies);
        Check.sentence("a die has 5 by 5 points, each with a depth, 0 to 9, at first 0",
                TermsEdgesTest::pointsOfDies);
        Check.sentence("points are told by column and row, from 0 at the upper left",
                TermsEdgesTest::pointsByColumnAndRow);
        Check.sentence("turned once, the point (a, b) comes to (4 less b, a)",
                TermsEdgesTest::turnedPoints);
        Check.sentence("or mirrored first (the point (a, b) comes to (4 less a, b)) and then turned so (4 to 7)",
                TermsEdgesTest::mirroredPoints);
    }

    private static void sheet() {
        Check.sentence("The sheet has 12 by 12 places, told by column and row", TermsEdgesTest::placesOfSheet);
        Check.sentence("Neighbours of a place are the up to four places beside it, above and below it, on the sheet.",
                TermsEdgesTest::neighboursOnTheSheet);
        Check.sentence("The strain of a place is the sum over its neighbours of the difference, without sign, of both depths.",
                TermsEdgesTest::strainWithoutSign);
        Check.sentence("A place bears setting 0, less setting 1 for each neighbour that has cracked; at least 0.",
                TermsEdgesTest::bearsAtLeastZero);
        Check.sentence("(The strain of all places together is also twice the sum, over all pairs of neighbours, of these differences.)",
                TermsEdgesTest::strainByPairs);
    }

    private static void presses() {
        Check.sentence("its point (a, b), as it is turned, is over the place (x and the slip and a, y and b)",
                TermsEdgesTest::pointsOverPlaces);
        Check.sentence("It is refused, for the first of these reasons that is so",
                TermsEdgesTest::firstReason);
        Check.sentence("1: a point with a depth above 0 is not over the sheet", TermsEdgesTest::notOverTheSheet);
        Check.sentence("2: a point is deeper than setting 2", TermsEdgesTest::deeperThanSetting);
        Check.sentence("3: no point has a depth above 0", TermsEdgesTest::noDepth);
        Check.sentence("(Points without a depth do not matter at all.)", TermsEdgesTest::pointsWithoutDepth);
        Check.sentence("The depth of each place becomes that of the point above it, if this is greater.",
                TermsEdgesTest::greaterDepth);
        Check.sentence("Foil that lies ready sticks at each place above which a point has a depth above 0, in place of the foil there, "
                + "if the place is among those over which the foil was laid", TermsEdgesTest::foilSticks);
        Check.sentence("then no foil lies ready any more", TermsEdgesTest::foilIsGone);
        Check.sentence("all places that have not cracked, and whose strain is more than they bear, crack, all at once",
                TermsEdgesTest::moreThanTheyBear);
        Check.sentence("and so again, with what they bear then, until no place cracks", TermsEdgesTest::cracksAgain);
        Check.sentence("the slip becomes 1 more, but at most 3, if the number of presses since it was pinned is a multiple of setting 3 "
                + "(with setting 3 as 0 it never does)", TermsEdgesTest::slips);
        Check.sentence("To pin the sheet makes the slip 0, and the number of presses since then.",
                TermsEdgesTest::pins);
    }

    private static void foilsAndFolds() {
        Check.sentence("A foil, 1 to 9, is laid ready over the places from one corner to another one",
                TermsEdgesTest::foilFromCornerToCorner);
        Check.sentence("another foil that lay ready is taken away", TermsEdgesTest::otherFoilIsTakenAway);
        Check.sentence("A fold ahead of a row (1 to 11)", TermsEdgesTest::foldRows);
        Check.sentence("each place of this row and of the row above that has not cracked cracks if the difference of the depths "
                + "of both places, in this column, is more than half of what the place bears", TermsEdgesTest::moreThanHalf);
        Check.sentence("(both rows are looked at first, then they crack)", TermsEdgesTest::rowsAreLookedAtFirst);
        Check.sentence("then cracks are found as behind a press", TermsEdgesTest::cracksBehindFold);
    }

    // ---- in general

    private static void callsTo512() {
        EmbossPress p = new EmbossPress();
        p.point(0, 4, 4, 1);
        for (int i = 0; i < 510; i++) {
            Check.due("press " + i, p.press(0, 7, 7, 0), 100);
        }
        Check.due("the 512th call", p.place(11, 11, 6), 510);
        EmbossPress q = new EmbossPress();
        q.point(1, 0, 0, 3);
        long first = q.digest();
        for (int i = 0; i < 509; i++) {
            q.digest();
        }
        Check.due("the 512th call", q.digest(), first);
    }

    private static void roundedDown() {
        EmbossPress p = Check.strong();
        p.set(1, 0);
        Check.pressPoint(p, 5, 5, 3);
        // The point itself has a strain of 12 and cracks; the place above has one of 3.
        p.set(0, 5);
        Check.due("3 is more than half of 5, rounded down", p.ifFolded(5), 2);
        p.set(0, 6);
        Check.due("3 is not more than half of 6", p.ifFolded(5), 1);
        p.fold(5);
        Check.dueShare("a share is not rounded", p.wholeShare(), 143.0 / 144);
    }

    // ---- dies

    private static void threeDies() {
        EmbossPress p = new EmbossPress();
        for (int die = 0; die < 3; die++) {
            p.point(die, 4, 4, die + 1);
        }
        for (int die = 0; die < 3; die++) {
            Check.due("die " + die, p.dieOf(die, 4, 4, 0), die + 1);
            Check.due("the next die begins anew", p.dieOf(die, 0, 0, 0), 0);
        }
        Check.dueOutOfBounds(p, "die 3", () -> p.dieOf(3, 0, 0, 0));
        Check.dueOutOfBounds(p, "die -1", () -> p.dieOf(-1, 4, 4, 0));
    }

    private static void pointsOfDies() {
        EmbossPress p = new EmbossPress();
        for (int i = 0; i < 75; i++) {
            Check.due("first", p.point(i / 25, i % 5, i / 5 % 5, 9), 0);
        }
        for (int i = 0; i < 75; i++) {
            Check.due("the greatest", p.point(i / 25, i % 5, i / 5 % 5, 0), 9);
        }
        Check.dueIllegal(p, "10", () -> p.point(0, 0, 0, 10));
        Check.dueIllegal(p, "-1", () -> p.point(0, 0, 0, -1));
    }

    private static void pointsByColumnAndRow() {
        EmbossPress p = new EmbossPress();
        for (int i = 0; i < 25; i++) {
            p.point(1, i % 5, i / 5, 1 + i % 9);
        }
        Check.dueOutcome("from the upper left", Check.dieText(p, 1, 0), "12345/67891/23456/78912/34567");
        for (int off : new int[] {-1, 5}) {
            Check.dueOutOfBounds(p, "column " + off, () -> p.dieOf(1, off, 2, 0));
            Check.dueOutOfBounds(p, "row " + off, () -> p.dieOf(1, 2, off, 0));
        }
    }

    /** A die with a single point comes, by this turn, to have it at (toA, toB). */
    private static void dueSinglePoint(int a, int b, int turn, int toA, int toB) {
        EmbossPress p = new EmbossPress();
        p.point(2, a, b, 7);
        for (int i = 0; i < 25; i++) {
            int want = i % 5 == toA && i / 5 == toB ? 7 : 0;
            Check.due("point of " + a + " " + b + " by turn " + turn, p.dieOf(2, i % 5, i / 5, turn), want);
        }
    }

    private static void turnedPoints() {
        for (int i = 0; i < 25; i++) {
            int a = i % 5;
            int b = i / 5;
            dueSinglePoint(a, b, 0, a, b);
            dueSinglePoint(a, b, 1, 4 - b, a);
            dueSinglePoint(a, b, 2, 4 - a, 4 - b);
            dueSinglePoint(a, b, 3, b, 4 - a);
        }
    }

    private static void mirroredPoints() {
        for (int i = 0; i < 25; i++) {
            int a = i % 5;
            int b = i / 5;
            dueSinglePoint(a, b, 4, 4 - a, b);
            dueSinglePoint(a, b, 5, 4 - b, 4 - a);
            dueSinglePoint(a, b, 6, a, 4 - b);
            dueSinglePoint(a, b, 7, b, a);
        }
        EmbossPress p = new EmbossPress();
        Check.dueIllegal(p, "turn 8", () -> p.dieOf(0, 0, 0, 8));
        Check.dueIllegal(p, "turn -1", () -> p.dieOf(0, 0, 0, -1));
    }

    // ---- the sheet

    private static void placesOfSheet() {
        EmbossPress p = new EmbossPress();
        p.foil(4, 11, 0, 11, 0);
        Check.due("upper right", Check.pressPoint(p, 11, 0, 7), 101);
        Check.due("depth by column and row", p.place(11, 0, 0), 7);
        Check.due("foil by column and row", p.place(11, 0, 1), 4);
        Check.due("crack by column and row", p.place(11, 0, 2), 1);
        for (int what = 0; what < 3; what++) {
            Check.due("lower left " + what, p.place(0, 11, what), 0);
            Check.due("lower right " + what, p.place(11, 11, what), 0);
            Check.due("upper left " + what, p.place(0, 0, what), 0);
        }
        for (int off : new int[] {-1, 12}) {
            Check.dueOutOfBounds(p, "column " + off, () -> p.place(off, 5, 0));
            Check.dueOutOfBounds(p, "row " + off, () -> p.place(5, off, 0));
        }
    }

    private static int neighbours(int x, int y) {
        return (x > 0 ? 1 : 0) + (x < 11 ? 1 : 0) + (y > 0 ? 1 : 0) + (y < 11 ? 1 : 0);
    }

    private static void neighboursOnTheSheet() {
        for (int i = 0; i < 144; i++) {
            EmbossPress p = Check.strong();
            Check.pressPoint(p, i % 12, i / 12, 5);
            for (int j = 0; j < 144; j++) {
                int apart = Math.abs(i % 12 - j % 12) + Math.abs(i / 12 - j / 12);
                int want = apart == 0 ? 5 * neighbours(i % 12, i / 12) : apart == 1 ? 5 : 0;
                Check.due("strain at " + j + " by " + i, p.place(j % 12, j / 12, 3), want);
            }
        }
        for (int i = 0; i < 11; i++) {
            dueNotWeakened(11, i, 0, i + 1);
            dueNotWeakened(0, i + 1, 11, i);
            dueNotWeakened(i, 11, i, 0);
            dueNotWeakened(i, 0, i, 11);
        }
    }

    /** Paper that bears 26: the one place holds 8 three times, but cracks if it is weakened by 3. */
    private static void dueNotWeakened(int x, int y, int crackX, int crackY) {
        EmbossPress p = new EmbossPress();
        p.set(0, 26);
        Check.due("it holds", Check.pressPoint(p, x, y, 8), 100);
        int edges = neighbours(crackX, crackY);
        Check.due("a crack across the sheet", Check.pressPoint(p, crackX, crackY, 9), edges == 3 ? 101 : 100);
        Check.due("it bears as much", p.place(x, y, 4), 26);
    }

    private static void strainWithoutSign() {
        EmbossPress p = Check.sheetOf("............", ".....2......", "....159.....", ".....7......");
        Check.due("among less and more depth", p.place(5, 2, 3), 4 + 4 + 3 + 2);
        Check.due("the deepest", p.place(6, 2, 3), 4 + 9 + 9 + 9);
        Check.due("a place of 0 among deeper ones", p.place(6, 1, 3), 2 + 9);
    }

    private static void bearsAtLeastZero() {
        EmbossPress p = Check.sheetOf("............", "............", "............", "............",
                ".....9......", "....999.....", ".....9......");
        p.set(1, 0);
        p.set(0, 26);
        Check.due("the four around the middle crack", p.fold(1), 4);
        int[][] settings = {{12, 3}, {12, 4}, {16, 4}, {17, 4}, {13, 3}, {0, 20}, {99, 20}, {0, 0}};
        for (int[] values : settings) {
            p.set(0, values[0]);
            p.set(1, values[1]);
            dueBears(p, 0, 0, values, 0);
            dueBears(p, 4, 5, values, 0);
            dueBears(p, 3, 5, values, 1);
            dueBears(p, 4, 4, values, 2);
            dueBears(p, 5, 5, values, 4);
        }
        EmbossPress q = Check.sheetOf("....999.....", ".....9......");
        q.set(1, 0);
        q.set(0, 17);
        Check.due("the three around the middle, and two below", q.fold(9), 5);
        q.set(0, 50);
        q.set(1, 20);
        dueBears(q, 5, 0, new int[] {50, 20}, 3);
        dueBears(q, 6, 0, new int[] {50, 20}, 1);
        for (int i = 0; i < 144; i++) {
            EmbossPress one = new EmbossPress();
            Check.due("a crack at " + i, Check.pressPoint(one, i % 12, i / 12, 9), 101);
            for (int j = 0; j < 144; j++) {
                int apart = Math.abs(i % 12 - j % 12) + Math.abs(i / 12 - j / 12);
                dueBears(one, j % 12, j / 12, new int[] {12, 3}, apart == 1 ? 1 : 0);
            }
        }
    }

    private static void dueBears(EmbossPress p, int x, int y, int[] values, int crackedBeside) {
        int want = Math.max(0, values[0] - crackedBeside * values[1]);
        Check.due(x + " " + y + " beside " + crackedBeside + " cracks, with " + values[0] + " and " + values[1],
                p.place(x, y, 4), want);
    }

    private static void strainByPairs() {
        EmbossPress flat = new EmbossPress();
        Check.due("flat, by places", flat.count(6), 0);
        Check.due("flat, by pairs", flat.count(7), 0);
        EmbossPress most = Check.sheetOf(Check.chequered('9'));
        Check.due("264 pairs, by places", most.count(6), 2 * 264 * 9);
        Check.due("264 pairs, by pairs", most.count(7), 2 * 264 * 9);
        int[][] at = {{0, 0}, {11, 0}, {0, 11}, {11, 11}, {5, 0}, {0, 5}, {11, 5}, {5, 11}, {5, 5}};
        for (int[] place : at) {
            EmbossPress p = Check.strong();
            Check.pressPoint(p, place[0], place[1], 9);
            int want = 2 * 9 * neighbours(place[0], place[1]);
            Check.due("at " + place[0] + " " + place[1] + " by places", p.count(6), want);
            Check.due("at " + place[0] + " " + place[1] + " by pairs", p.count(7), want);
        }
    }

    // ---- presses

    /** A die 0 with one point, and a sheet that has slipped so far and slips no more. */
    private static EmbossPress slipped(int slip, int column, int row) {
        EmbossPress p = Check.strong();
        p.point(0, 0, 0, 1);
        p.set(3, 1);
        for (int i = 0; i < slip; i++) {
            p.press(0, 0, 0, 0);
        }
        p.set(3, 0);
        Check.due("the slip", p.count(2), slip);
        p.point(0, 0, 0, 0);
        p.point(0, column, row, 5);
        return p;
    }

    private static void pointsOverPlaces() {
        for (int slip = 0; slip <= 3; slip++) {
            EmbossPress p = slipped(slip, 4, 3);
            Check.due("as it is", p.press(0, 1, 2, 0), 100);
            Check.due("x, slip and a; y and b", p.place(1 + slip + 4, 2 + 3, 0), 5);
            Check.due("turned", p.press(0, 1, 2, 1), 100);
            Check.due("x, slip and a; y and b", p.place(1 + slip + 1, 2 + 4, 0), 5);
            Check.due("the last column", p.press(0, 7 - slip, 0, 0), 100);
            Check.due("in it", p.place(11, 3, 0), 5);
            Check.due("behind the last column", p.press(0, 8 - slip, 0, 0), 1);
            Check.due("the first column", p.press(0, -4 - slip, 5, 0), 100);
            Check.due("in it", p.place(0, 8, 0), 5);
            Check.due("ahead of the first column", p.press(0, -5 - slip, 5, 0), 1);
            Check.due("the slip moves no row", p.press(0, 0, 8, 0), 100);
            Check.due("the slip moves no row", p.press(0, 0, 9, 0), 1);
        }
    }

    private static void firstReason() {
        EmbossPress p = new EmbossPress();
        p.set(2, 8);
        Check.loadText(p, 0, "9...1");
        Check.due("off the sheet and too deep", p.press(0, 8, 0, 0), 1);
        Check.due("only too deep", p.press(0, 7, 0, 0), 2);
        Check.loadText(p, 1, "9/./././1");
        Check.due("off the sheet and too deep", p.press(1, 0, 8, 0), 1);
        Check.due("only too deep", p.press(1, 0, 7, 0), 2);
        Check.loadText(p, 2, "9");
        Check.due("the same point off the sheet and too deep", p.press(2, 12, 0, 0), 1);
        Check.due("all of them are counted", p.count(3), 5);
    }

    private static void notOverTheSheet() {
        for (int i = 0; i < 25; i++) {
            int a = i % 5;
            int b = i / 5;
            EmbossPress p = new EmbossPress();
            p.point(0, a, b, 1);
            Check.due("upper left", p.press(0, -a, -b, 0), 100);
            Check.due("left of it", p.press(0, -a - 1, -b, 0), 1);
            Check.due("above it", p.press(0, -a, -b - 1, 0), 1);
            Check.due("lower right", p.press(0, 11 - a, 11 - b, 0), 100);
            Check.due("right of it", p.press(0, 12 - a, 11 - b, 0), 1);
            Check.due("below it", p.press(0, 11 - a, 12 - b, 0), 1);
            Check.due("left of the second row", p.press(0, -a - 1, 1 - b, 0), 1);
            Check.due("right of the first row", p.press(0, 12 - a, -b, 0), 1);
            Check.due("presses", p.count(0), 2);
        }
        int max = Integer.MAX_VALUE;
        int min = Integer.MIN_VALUE;
        // 357913942 rows of 12 are 8 more than all ints: such a row must not wrap to the first one.
        int[][] far = {{max, 0}, {min, 0}, {0, max}, {0, min}, {max, max}, {min, min}, {max - 3, 0},
            {max - 4, 3}, {max - 6, 0}, {0, max - 3}, {0, 357913942}, {0, -357913941}, {0, 1431655765}};
        for (int slip = 0; slip <= 3; slip += 3) {
            EmbossPress p = slipped(slip, 4, 4);
            for (int[] at : far) {
                Check.due("far at " + at[0] + " " + at[1], p.press(0, at[0], at[1], 0), 1);
                Check.due("far at " + at[0] + " " + at[1], p.ifPressed(0, at[0], at[1], 2), 1);
            }
            Check.due("refused", p.count(3), far.length);
        }
    }

    private static void deeperThanSetting() {
        for (int most = 1; most <= 9; most++) {
            EmbossPress p = Check.strong();
            p.set(2, most);
            p.point(0, 4, 4, most);
            Check.due("as deep as setting 2, " + most, p.press(0, 0, 0, 0), 100);
            if (most < 9) {
                p.point(0, 4, 4, most + 1);
                Check.due("deeper than setting 2, " + most, p.press(0, 0, 0, 0), 2);
                p.point(0, 0, 0, 1);
                Check.due("one deeper among others", p.press(0, 0, 0, 0), 2);
                Check.due("one deeper among others, turned", p.press(0, 0, 0, 2), 2);
            }
        }
    }

    private static void noDepth() {
        EmbossPress p = new EmbossPress();
        Check.due("a new die", p.press(0, 0, 0, 0), 3);
        Check.due("nowhere near the sheet", p.press(2, Integer.MAX_VALUE, Integer.MIN_VALUE, 7), 3);
        p.point(0, 4, 4, 1);
        Check.due("one point has a depth", p.press(0, 0, 0, 0), 100);
        p.point(0, 4, 4, 0);
        Check.due("no longer", p.press(0, 0, 0, 0), 3);
        p.set(2, 1);
        Check.due("with setting 2 as 1", p.press(0, 0, 0, 0), 3);
    }

    private static void pointsWithoutDepth() {
        EmbossPress p = Check.strong();
        p.point(0, 2, 2, 5);
        Check.due("off the sheet at the left and above", p.press(0, -2, -2, 0), 100);
        Check.due("off the sheet at the right and below", p.press(0, 9, 9, 0), 100);
        Check.due("pressed", p.place(11, 11, 0), 5);
        p.foil(3, 0, 0, 11, 11);
        p.point(1, 3, 3, 6);
        Check.due("over a pressed place", p.press(1, 0, 0, 0), 100);
        Check.due("it stays as deep", p.place(0, 0, 0), 5);
        Check.due("it is not pressed", p.place(0, 0, 6), 1);
        Check.due("no foil sticks there", p.place(0, 0, 1), 0);
        Check.due("foil sticks at one place", p.count(8), 1);
        Check.due("places beside it stay without depth", p.place(2, 3, 0), 0);
    }

    private static void greaterDepth() {
        EmbossPress p = Check.strong();
        int[] pressed = {4, 4, 3, 1, 5, 4, 9, 8, 9};
        int depth = 0;
        for (int i = 0; i < pressed.length; i++) {
            depth = Math.max(depth, pressed[i]);
            Check.due("press", Check.pressPoint(p, 11, 11, pressed[i]), 100);
            Check.due("depth behind a press of " + pressed[i], p.place(11, 11, 0), depth);
            Check.due("pressed, deeper or not", p.place(11, 11, 6), i + 1);
        }
    }

    private static void foilSticks() {
        EmbossPress p = Check.strong();
        Check.loadText(p, 0, "11111/11111/11111/11111/11111");
        p.foil(2, 4, 5, 6, 7);
        p.press(0, 3, 3, 0);
        Check.due("at nine places", p.count(8), 9);
        Check.due("at the one corner", p.place(4, 5, 1), 2);
        Check.due("at the other corner", p.place(6, 7, 1), 2);
        Check.due("not left of it", p.place(3, 5, 1), 0);
        Check.due("not above it", p.place(4, 4, 1), 0);
        Check.due("not right of it", p.place(7, 7, 1), 0);
        p.foil(5, 6, 7, 11, 11);
        p.press(0, 3, 3, 0);
        Check.due("in place of the foil there", p.place(6, 7, 1), 5);
        Check.due("the places of a press that are in the foil", p.count(8), 10);
        Check.due("the others keep theirs", p.place(5, 7, 1), 2);
        p.press(0, 3, 3, 0);
        Check.due("without foil they keep theirs", p.place(6, 7, 1), 5);
        EmbossPress slip = slipped(2, 0, 0);
        slip.foil(3, 7, 7, 7, 7);
        slip.press(0, 5, 7, 0);
        Check.due("where the die is by the slip", slip.place(7, 7, 1), 3);
        slip.foil(3, 5, 9, 5, 9);
        slip.press(0, 5, 9, 0);
        Check.due("not where it would be without", slip.place(5, 9, 1), 0);
        EmbossPress corner = Check.strong();
        corner.foil(9, 0, 0, 11, 11);
        Check.pressPoint(corner, 11, 11, 1);
        Check.pressPoint(corner, 0, 0, 1);
        Check.due("at the last place", corner.place(11, 11, 1), 9);
        Check.due("only by the first press", corner.count(8), 1);
    }

    private static void foilIsGone() {
        EmbossPress p = Check.strong();
        p.foil(7, 0, 0, 2, 2);
        Check.due("a refused press", p.press(0, 0, 0, 0), 3);
        Check.due("leaves it ready", p.count(9), 7);
        Check.due("leaves it ready", p.place(2, 2, 5), 1);
        Check.due("a press beside it", Check.pressPoint(p, 3, 3, 1), 100);
        Check.due("no foil lies ready", p.count(9), 0);
        Check.due("no foil lies ready there", p.place(2, 2, 5), 0);
        Check.due("none sticks", p.count(8), 0);
        Check.due("a press below where it was", Check.pressPoint(p, 1, 1, 1), 100);
        Check.due("none sticks", p.count(8), 0);
    }

    private static void moreThanTheyBear() {
        int[][] at = {{5, 5, 4}, {5, 0, 3}, {11, 5, 3}, {0, 0, 2}, {11, 11, 2}};
        for (int[] place : at) {
            EmbossPress p = new EmbossPress();
            int strain = 9 * place[2];
            p.set(1, 0);
            p.set(0, strain);
            Check.due("as much as it bears", Check.pressPoint(p, place[0], place[1], 9), 100);
            p.set(0, strain - 1);
            Check.due("more than it bears", p.press(2, place[0], place[1], 0), 101);
            Check.due("it has cracked", p.place(place[0], place[1], 2), 1);
            Check.due("what has cracked cracks no more", p.press(2, place[0], place[1], 0), 100);
            p.set(0, 8);
            Check.due("its neighbours", p.press(2, place[0], place[1], 0), 100 + place[2]);
        }
        EmbossPress none = new EmbossPress();
        none.set(0, 0);
        none.set(1, 20);
        Check.due("no strain is not more than 0", Check.pressPoint(none, 5, 5, 1), 105);
    }

    private static void cracksAgain() {
        EmbossPress p = Check.sheetOf(Check.chequered('1'));
        p.set(0, 4);
        p.set(1, 2);
        Check.due("all hold", Check.pressPoint(p, 0, 0, 2), 100);
        p.set(1, 0);
        Check.pressPoint(p, 0, 0, 3);
        Check.due("at first three places", p.count(4), 3);
        p.undo();
        p.undo();
        p.set(1, 2);
        // The other corner cracks 20 rounds behind them, and edges only by what cracks beside them.
        Check.due("then all, to the other corner", Check.pressPoint(p, 0, 0, 3), 244);
        Check.due("no place is left", p.count(4), 144);
        EmbossPress winding = Check.sheetOf("............", ".4444444444.", "..........4.", "..........4.",
                ".4444444444.", ".4..........", ".4..........", ".4444444444.", "..........4.", "..........4.",
                "44444444444.", "............");
        winding.set(0, 8);
        winding.set(1, 1);
        // Only the start of the line has 12; 46 more crack behind it in 40 rounds, and six inside the bends.
        Check.due("a crack along a winding line, round by round", winding.fold(11), 47 + 6);
        Check.due("to its end", winding.place(0, 10, 2), 1);
        for (int i = 0; i < 144; i++) {
            EmbossPress one = new EmbossPress();
            one.set(1, 4);
            int beside = neighbours(i % 12, i / 12);
            Check.due("9 is more than 12 less 4, at " + i, Check.pressPoint(one, i % 12, i / 12, 9), 101 + beside);
        }
        EmbossPress q = Check.sheetOf("............", "...444444...", "............");
        q.set(1, 3);
        q.set(0, 12);
        Check.due("all hold", q.ifFolded(11), 0);
        q.set(0, 11);
        Check.due("the ends have 12; the others 8, which is not more than 11 less 3", q.ifFolded(11), 2);
        q.set(0, 10);
        Check.due("but more than 10 less 3", q.ifFolded(11), 6);
    }

    private static void slips() {
        for (int every = 0; every <= 9; every++) {
            EmbossPress p = new EmbossPress();
            p.set(3, every);
            Check.loadText(p, 0, "1");
            for (int i = 1; i <= 4 * every + 9; i++) {
                Check.due("press", p.press(0, 0, 0, 0), 100);
                int want = every == 0 ? 0 : Math.min(3, i / every);
                Check.due("slip behind " + i + " presses with setting 3 as " + every, p.count(2), want);
            }
        }
        EmbossPress p = new EmbossPress();
        p.set(3, 2);
        Check.pressPoint(p, 0, 0, 1);
        Check.due("refused", p.press(1, 0, 0, 0), 3);
        Check.due("a refused press slips nothing", p.count(2), 0);
        Check.pressPoint(p, 0, 0, 1);
        Check.due("the second press does", p.count(2), 1);
        p.press(1, 0, 0, 0);
        Check.due("a refused press slips nothing more", p.count(2), 1);
        p.set(3, 1);
        Check.due("a changed setting slips nothing", p.count(2), 1);
    }

    private static void pins() {
        EmbossPress p = new EmbossPress();
        p.set(3, 1);
        for (int i = 0; i < 5; i++) {
            Check.pressPoint(p, 0, i, 1);
        }
        Check.due("slip", p.count(2), 3);
        Check.due("presses since it was pinned", p.count(1), 5);
        p.foil(2, 4, 4, 4, 4);
        p.pin();
        Check.due("foil lies ready as before", p.count(9), 2);
        Check.due("slip", p.count(2), 0);
        Check.due("presses since it was pinned", p.count(1), 0);
        p.set(3, 2);
        Check.pressPoint(p, 0, 0, 1);
        Check.due("one press since then", p.count(1), 1);
        Check.due("no slip yet", p.count(2), 0);
        Check.pressPoint(p, 0, 0, 1);
        Check.due("slip anew", p.count(2), 1);
        Check.due("presses so far go on", p.count(0), 7);
    }

    // ---- foils and folds

    private static void foilFromCornerToCorner() {
        EmbossPress p = new EmbossPress();
        for (int foil : new int[] {1, 9}) {
            p.foil(foil, 2, 3, 5, 3);
            Check.due("foil " + foil, p.count(9), foil);
        }
        Check.dueIllegal(p, "foil 0", () -> p.foil(0, 2, 3, 5, 3));
        Check.dueIllegal(p, "foil 10", () -> p.foil(10, 2, 3, 5, 3));
        for (int i = 0; i < 144; i++) {
            int want = i / 12 == 3 && i % 12 >= 2 && i % 12 <= 5 ? 1 : 0;
            Check.due("over " + i % 12 + " " + i / 12, p.place(i % 12, i / 12, 5), want);
        }
    }

    private static void otherFoilIsTakenAway() {
        EmbossPress p = Check.strong();
        p.foil(1, 0, 0, 3, 3);
        p.foil(2, 3, 3, 4, 4);
        Check.due("the second one", p.count(9), 2);
        Check.due("no longer over the first places", p.place(0, 0, 5), 0);
        Check.due("over its own", p.place(4, 4, 5), 1);
        Check.loadText(p, 0, "11111/11111/11111/11111/11111");
        p.press(0, 0, 0, 0);
        Check.due("only the second one sticks", p.count(8), 4);
        Check.due("where both lay", p.place(3, 3, 1), 2);
        Check.due("where the first one lay", p.place(0, 0, 1), 0);
    }

    private static void foldRows() {
        EmbossPress upper = Check.sheetOf("444444444444");
        upper.set(1, 0);
        upper.set(0, 7);
        Check.due("ahead of row 2", upper.ifFolded(2), 0);
        Check.due("ahead of row 1", upper.fold(1), 24);
        Check.due("row 0", upper.place(11, 0, 2), 1);
        Check.due("row 1", upper.place(0, 1, 2), 1);
        Check.due("not row 2", upper.place(0, 2, 2), 0);
        EmbossPress lower = Check.sheetOf("............", "............", "............", "............",
                "............", "............", "............", "............", "............", "............",
                "............", "444444444444");
        lower.set(1, 0);
        lower.set(0, 7);
        Check.due("ahead of row 10", lower.ifFolded(10), 0);
        Check.due("ahead of row 11", lower.fold(11), 24);
        Check.due("row 11", lower.place(11, 11, 2), 1);
        Check.due("row 10", lower.place(0, 10, 2), 1);
        Check.dueOutOfBounds(lower, "ahead of row 0", () -> lower.fold(0));
        Check.dueOutOfBounds(lower, "ahead of row 12", () -> lower.fold(12));
    }

    /** From row 6 on all places have this depth. */
    private static String[] halfOf(char depth) {
        String[] rows = new String[12];
        for (int y = 0; y < 12; y++) {
            rows[y] = (y < 6 ? "." : String.valueOf(depth)).repeat(12);
        }
        return rows;
    }

    private static void moreThanHalf() {
        for (int depth = 1; depth <= 9; depth++) {
            EmbossPress p = Check.sheetOf(halfOf((char) ('0' + depth)));
            p.set(1, 0);
            p.set(0, 2 * depth);
            Check.due("just half, " + depth, p.ifFolded(6), 0);
            p.set(0, 2 * depth - 1);
            Check.due("more than half, " + depth, p.fold(6), 24);
            Check.due("what has cracked cracks no more", p.fold(6), 0);
        }
        dueOwnHalf(4, 5, 6);
        dueOwnHalf(7, 6, 5);
    }

    /** A place has cracked, so that of both beside the step one bears 7, and the other one 8. */
    private static void dueOwnHalf(int crackedRow, int weakRow, int strongRow) {
        EmbossPress p = new EmbossPress();
        p.set(1, 0);
        p.set(0, 3);
        Check.due("a crack", Check.pressPoint(p, 5, crackedRow, 1), 101);
        p.set(0, 99);
        Check.loadText(p, 2, "44444/44444/44444/44444/44444");
        for (int y = 6; y <= 7; y++) {
            for (int x : new int[] {0, 5, 7}) {
                p.press(2, x, y, 0);
            }
        }
        p.set(0, 8);
        p.set(1, 1);
        Check.due("4 is more than half of 7, and not of 8", p.fold(6), 1);
        Check.due("the one that bears 7", p.place(5, weakRow, 2), 1);
        Check.due("the one that bears 8", p.place(5, strongRow, 2), 0);
    }

    private static void rowsAreLookedAtFirst() {
        EmbossPress p = Check.sheetOf(halfOf('4'));
        Check.pressPoint(p, 5, 6, 5);
        Check.pressPoint(p, 11, 6, 5);
        p.set(0, 8);
        p.set(1, 2);
        // Beside them places would bear 6 then, and a step of 4 is more than half of 6.
        Check.due("only two steps of 5", p.fold(6), 4);
        Check.due("left of it", p.place(4, 6, 2), 0);
        Check.due("right of it", p.place(6, 5, 2), 0);
    }

    private static void cracksBehindFold() {
        EmbossPress p = Check.sheetOf(halfOf('4'));
        Check.pressPoint(p, 5, 6, 5);
        p.set(0, 8);
        p.set(1, 3);
        Check.due("a strain of 5 holds on 8 less 3", p.ifFolded(6), 2);
        p.set(1, 4);
        Check.due("but not on 8 less 4", p.ifFolded(6), 6);
        p.set(1, 5);
        Check.due("and so again, to both ends", p.ifFolded(6), 24);
        EmbossPress far = Check.strong();
        Check.pressPoint(far, 11, 11, 9);
        far.set(0, 17);
        far.set(1, 8);
        Check.due("far from the fold, as behind a press", far.ifFolded(1), 1);
        Check.due("as behind a press", Check.pressPoint(far, 0, 0, 1), 101);
    }
}
