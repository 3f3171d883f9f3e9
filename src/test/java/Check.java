/** What the tests of the project share: answers and exceptions that are due. */
final class Check {
    interface Call {
        long answer();
    }

    private static int wrong = 0;
    private static int looked = 0;

    private Check() {
    }

    static void due(String call, long got, long want) {
        looked++;
        if (got != want) {
            tell(call + " answered " + got + ", due is " + want);
        }
    }

    static void dueShare(String call, double got, double want) {
        looked++;
        if (Double.doubleToLongBits(got) != Double.doubleToLongBits(want)) {
            tell(call + " answered " + got + ", due is " + want);
        }
    }

    /** The call throws just this exception, and the object is as before. */
    static void dueThrow(EmbossPress press, String call, Class<?> want, Call made) {
        looked++;
        long before = press.digest();
        String got = outcome(made);
        if (!got.equals("throws." + want.getSimpleName())) {
            tell(call + " answered " + got + ", due is throws." + want.getSimpleName());
        }
        if (press.digest() != before) {
            tell(call + " threw and changed the object");
        }
    }

    static void dueOutOfBounds(EmbossPress press, String call, Call made) {
        dueThrow(press, call, IndexOutOfBoundsException.class, made);
    }

    static void dueIllegal(EmbossPress press, String call, Call made) {
        dueThrow(press, call, IllegalArgumentException.class, made);
    }

    static void dueIllegalState(EmbossPress press, String call, Call made) {
        dueThrow(press, call, IllegalStateException.class, made);
    }

    /** The answer as a text, or the exception's name behind "throws.". */
    static String outcome(Call made) {
        try {
            return Long.toString(made.answer());
        } catch (RuntimeException e) {
            return "throws." + e.getClass().getSimpleName();
        }
    }

    static void dueOutcome(String call, String got, String want) {
        looked++;
        if (!got.equals(want)) {
            tell(call + " answered " + got + ", due is " + want);
        }
    }

    static void tell(String what) {
        wrong++;
        if (wrong <= 40) {
            System.out.println(what);
        }
    }

    static boolean allRight() {
        return wrong == 0;
    }

    static void end() {
        System.out.println(looked + " answers looked at, " + wrong + " not as due");
        if (wrong != 0) {
            System.exit(1);
        }
    }

    // ---- short ways to a state

    static void type(EmbossPress press, String text) {
        press.clearBuffer();
        for (int i = 0; i < text.length(); i++) {
            press.append(text.charAt(i));
        }
    }

    static int loadText(EmbossPress press, int die, String text) {
        type(press, text);
        return press.load(die);
    }

    /** A die as a text of five full rows. */
    static String dieText(EmbossPress press, int die, int turn) {
        StringBuilder text = new StringBuilder();
        for (int row = 0; row < 5; row++) {
            text.append(row == 0 ? "" : "/");
            for (int column = 0; column < 5; column++) {
                text.append(press.dieOf(die, column, row, turn));
            }
        }
        return text.toString();
    }

    /** One property of all places, row by row. */
    static String places(EmbossPress press, int what) {
        StringBuilder text = new StringBuilder();
        for (int y = 0; y < 12; y++) {
            for (int x = 0; x < 12; x++) {
                text.append(press.place(x, y, what)).append(' ');
            }
        }
        return text.toString();
    }

    /** Presses a single point, with die 2, so that it comes to (x, y) with slip 0. */
    static int pressPoint(EmbossPress press, int x, int y, int depth) {
        loadText(press, 2, Integer.toString(depth));
        return press.press(2, x, y, 0);
    }
}
