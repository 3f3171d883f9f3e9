import java.io.IOException;
import java.nio.file.Files;
import java.nio.file.Path;

/** What the tests of the project share: answers and exceptions that are due. */
final class Check {
    interface Call {
        long answer();
    }

    interface Test {
        void run();
    }

    interface Made {
        EmbossPress make();
    }

    private static final Path DOCUMENT = Path.of("../shared/DOC.md");
    private static int wrong = 0;
    private static int looked = 0;
    private static String sentence = "";

    private Check() {
    }

    /**
     * Runs the test of one sentence of the document, so that what is wrong is told by that sentence.
     * The sentence must stand in the document: a changed document shows which tests are out of date.
     */
    static void sentence(String quoted, Test test) {
        sentence = quoted;
        looked++;
        if (Files.exists(DOCUMENT) && !document().contains(quoted)) {
            tell("the document does not say so");
        }
        try {
            test.run();
        } catch (RuntimeException e) {
            tell("a call threw " + e + " at " + e.getStackTrace()[0]);
        }
        sentence = "";
    }

    private static String document() {
        try {
            return Files.readString(DOCUMENT);
        } catch (IOException e) {
            throw new IllegalStateException(DOCUMENT + " cannot be read", e);
        }
    }

    static void due(String call, long got, long want) {
        looked++;
        if (got != want) {
            tell(call + " answered " + got + ", due is " + want);
        }
    }

    static void dueShare(String call, double got, double want) {
        looked++;
        if (Double.doubleToLongBits(got) != Double.doubleToLongBits(want)) {
            tell(call + " answered " + got + ", due is " + want);
        }
    }

    /** The call throws just this exception, and the object is as before. */
    static void dueThrow(EmbossPress press, String call, Class<?> want, Call made) {
        looked++;
        long before = press.digest();
        String got = outcome(made);
        if (!got.equals("throws." + want.getSimpleName())) {
            tell(call + " answered " + got + ", due is throws." + want.getSimpleName());
        }
        if (press.digest() != before) {
            tell(call + " threw and changed the object");
        }
    }

    static void dueOutOfBounds(EmbossPress press, String call, Call made) {
        dueThrow(press, call, IndexOutOfBoundsException.class, made);
    }

    static void dueIllegal(EmbossPress press, String call, Call made) {
        dueThrow(press, call, IllegalArgumentException.class, made);
    }

    static void dueIllegalState(EmbossPress press, String call, Call made) {
        dueThrow(press, call, IllegalStateException.class, made);
    }

    /** The answer as a text, or the exception's name behind "throws.". */
    static String outcome(Call made) {
        try {
            return Long.toString(made.answer());
        } catch (RuntimeException e) {
            return "throws." + e.getClass().getSimpleName();
        }
    }

    static void dueOutcome(String call, String got, String want) {
        looked++;
        if (!got.equals(want)) {
            tell(call + " answered " + got + ", due is " + want);
        }
    }

    static void tell(String what) {
        wrong++;
        if (wrong <= 40) {
            System.out.println(sentence.isEmpty() ? what : "\"" + sentence + "\": " + what);
        }
    }

    static boolean allRight() {
        return wrong == 0;
    }

    static void end() {
        System.out.println(looked + " answers looked at, " + wrong + " not as due");
        if (wrong != 0) {
            System.exit(1);
        }
    }

    /** The hash told by the calls of the face, each object for less than 512 of them. */
    static long hashOf(Made made, int slots, String text) {
        EmbossPress p = made.make();
        long hash = 3319;
        for (int what = 0; what <= 13; what++) {
            hash = 31 * hash + p.count(what);
        }
        for (int i = 0; i < 4; i++) {
            hash = 31 * hash + p.setting(i);
        }
        for (int i = 0; i < 75; i++) {
            hash = 31 * hash + p.dieOf(i / 25, i % 5, i / 5 % 5, 0);
        }
        for (int row = 0; row < 12; row++) {
            EmbossPress again = made.make();
            for (int i = 0; i < 84; i++) {
                hash = 31 * hash + again.place(i / 7, row, i % 7);
            }
        }
        for (int die = 0; die < 3; die++) {
            hash = 31 * hash + p.ifPressed(die, 3, 4, 0);
            hash = 31 * hash + p.gentlest(die, 0);
            hash = 31 * hash + p.alike(die, 0);
            hash = 31 * hash + p.needed(die, 3, 4, 0);
        }
        for (int row = 1; row <= 11; row++) {
            hash = 31 * hash + p.ifFolded(row);
        }
        hash = 31 * hash + p.bestFold();
        hash = 31 * hash + Double.doubleToLongBits(p.wholeShare());
        hash = 31 * hash + (slots & 1);
        hash = 31 * hash + (slots >> 1);
        hash = 31 * hash + text.length();
        for (char code : text.toCharArray()) {
            hash = 31 * hash + code;
        }
        return hash;
    }

    static void dueHash(String state, Made made, int slots, String text) {
        due("digest of " + state, made.make().digest(), hashOf(made, slots, text));
    }

    // ---- short ways to a state

    /** Paper that bears all that 9 points of depth can strain, so that nothing cracks yet. */
    static EmbossPress strong() {
        EmbossPress press = new EmbossPress();
        press.set(0, 99);
        return press;
    }

    /** Paper as strong, pressed to these depths: a text a row, "." for 0, missing rows for rows of 0. */
    static EmbossPress sheetOf(String... rows) {
        EmbossPress press = strong();
        for (int y : new int[] {0, 5, 7}) {
            for (int x : new int[] {0, 5, 7}) {
                pressPart(press, x, y, rows);
            }
        }
        return press;
    }

    private static void pressPart(EmbossPress press, int x, int y, String[] rows) {
        StringBuilder text = new StringBuilder();
        for (int row = y; row < y + 5 && row < rows.length; row++) {
            text.append(row == y ? "" : "/").append(rows[row], x, x + 5);
        }
        if (text.toString().matches(".*[1-9].*")) {
            loadText(press, 2, text.toString());
            due("a press that makes the sheet", press.press(2, x, y, 0), 100);
        }
    }

    /** A state that is other than a new one in all that a snapshot holds. */
    static EmbossPress used() {
        EmbossPress p = new EmbossPress();
        p.set(1, 4);
        p.set(2, 8);
        p.set(3, 2);
        p.sheet();
        p.foil(3, 1, 1, 8, 8);
        pressPoint(p, 4, 4, 8);
        pressPoint(p, 6, 6, 8);
        pressPoint(p, 1, 1, 7);
        p.fold(5);
        p.press(1, 0, 0, 0);
        loadText(p, 0, "12/3");
        loadText(p, 1, "..4/5");
        p.foil(7, 2, 3, 9, 10);
        return p;
    }

    /** Makes all of that other once more. */
    static void spoil(EmbossPress p) {
        p.sheet();
        p.set(0, 50);
        p.set(1, 0);
        p.set(2, 5);
        p.set(3, 1);
        p.foil(1, 0, 0, 11, 11);
        pressPoint(p, 9, 9, 4);
        p.press(2, 50, 0, 0);
        p.point(0, 1, 2, 1);
        p.point(1, 1, 2, 1);
        p.foil(6, 3, 4, 8, 9);
        p.fold(4);
        p.clearBuffer();
    }

    /** Rows for sheetOf, with this depth at each other place, at the upper left one, too. */
    static String[] chequered(char depth) {
        String[] rows = new String[12];
        for (int y = 0; y < 12; y++) {
            rows[y] = "9.9.9.9.9.9.9.".substring(y % 2, y % 2 + 12).replace('9', depth);
        }
        return rows;
    }

    static void type(EmbossPress press, String text) {
        press.clearBuffer();
        for (int i = 0; i < text.length(); i++) {
            press.append(text.charAt(i));
        }
    }

    static int loadText(EmbossPress press, int die, String text) {
        type(press, text);
        return press.load(die);
    }

    /** A die as a text of five full rows. */
    static String dieText(EmbossPress press, int die, int turn) {
        StringBuilder text = new StringBuilder();
        for (int row = 0; row < 5; row++) {
            text.append(row == 0 ? "" : "/");
            for (int column = 0; column < 5; column++) {
                text.append(press.dieOf(die, column, row, turn));
            }
        }
        return text.toString();
    }

    /** One property of all places, row by row. */
    static String places(EmbossPress press, int what) {
        StringBuilder text = new StringBuilder();
        for (int y = 0; y < 12; y++) {
            for (int x = 0; x < 12; x++) {
                text.append(press.place(x, y, what)).append(' ');
            }
        }
        return text.toString();
    }

    /** Presses a single point, with die 2, so that it comes to (x, y) with slip 0. */
    static int pressPoint(EmbossPress press, int x, int y, int depth) {
        loadText(press, 2, Integer.toString(depth));
        return press.press(2, x, y, 0);
    }
}
