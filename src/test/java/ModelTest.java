import java.util.ArrayList;
import java.util.List;

/** All promises: long runs of calls, the same for each start, on the program and on the Model. */
public final class ModelTest {
    interface Due {
        long answer() throws Model.Thrown;
    }

    private static final int RUNS = 90;
    private static final int CALLS = 512;
    private static final String[] TEXTS = {
        "1", "9", "5/55/555", "12321/23432/34543/23432/12321", "9.9.9/.9.9./9.9.9", "..1../.121./12321",
        "11111/11111/11111/11111/11111", "3", ".4", "..5", "7/7", "1/2/3/4/5", "8...8", "22/22",
        "44444/44444", "12345/6", "99999/99999/99999/99999/99999", "/", "1/", "123456", "1/2/3/4/5/6", "x",
    };
    private static final int[] FAR = {Integer.MIN_VALUE, -7, -1, 12, 13, 99, 100, Integer.MAX_VALUE};

    private final EmbossPress program = new EmbossPress();
    private final Model model = new Model();
    private final List<String> calls = new ArrayList<>();
    private final int run;
    private long seed;

    private ModelTest(int run) {
        this.run = run;
        seed = 977L * run + 5;
    }

    public static void main(String[] args) {
        for (int run = 0; run < RUNS && Check.allRight(); run++) {
            new ModelTest(run).go();
        }
        Check.end();
    }

    private int pick(int bound) {
        seed = seed * 6364136223846793005L + 1442695040888963407L;
        return (int) ((seed >>> 33) % bound);
    }

    /** Mostly from 0 to below the bound, now and then far from it. */
    private int most(int bound) {
        return pick(60) == 0 ? FAR[pick(FAR.length)] : pick(60) == 0 ? bound : pick(bound);
    }

    private void go() {
        boolean weak = run % 3 == 0;
        for (int i = 0; calls.size() < CALLS && Check.allRight(); i++) {
            if (i % 32 == 31) {
                both("digest()", program::digest, model::digest);
            } else if (i == 0 && weak) {
                both("set(0, 40)", () -> program.set(0, 40), () -> model.set(0, 40));
            } else {
                one();
            }
        }
        if (!Check.allRight()) {
            System.out.println("run " + run + ": " + String.join(" ; ", calls));
        }
    }

    private void both(String call, Check.Call got, Due due) {
        if (calls.size() == CALLS) {
            return;
        }
        String want;
        try {
            want = Long.toString(due.answer());
        } catch (Model.Thrown thrown) {
            want = thrown.getMessage();
        }
        String answered = Check.outcome(got);
        calls.add(call + " = " + answered);
        Check.dueOutcome("run " + run + ", call " + calls.size() + ": " + call, answered, want);
    }

    private void one() {
        int kind = pick(100);
        if (kind < 34) {
            press();
        } else if (kind < 50) {
            text();
        } else if (kind < 66) {
            changes(kind - 50);
        } else if (kind < 76) {
            states();
        } else {
            looks();
        }
    }

    private void press() {
        int die = most(3);
        int x = pick(4) == 0 ? pick(18) - 5 : most(10);
        int y = pick(4) == 0 ? pick(18) - 5 : most(10);
        int turn = most(8);
        String at = "(" + die + ", " + x + ", " + y + ", " + turn + ")";
        switch (pick(6)) {
            case 0 -> both("ifPressed" + at, () -> program.ifPressed(die, x, y, turn),
                    () -> model.ifPressed(die, x, y, turn));
            case 1 -> both("needed" + at, () -> program.needed(die, x, y, turn),
                    () -> model.needed(die, x, y, turn));
            default -> both("press" + at, () -> program.press(die, x, y, turn),
                    () -> model.press(die, x, y, turn));
        }
    }

    private void text() {
        if (pick(8) == 0) {
            int code = most(100) + 30;
            both("append(" + code + ")", () -> program.append(code), () -> model.append(code));
            both("firstError()", program::firstError, model::firstError);
            return;
        }
        if (pick(10) > 0) {
            both("clearBuffer()", program::clearBuffer, model::clearBuffer);
        }
        for (char sign : TEXTS[pick(TEXTS.length)].toCharArray()) {
            both("append(" + (int) sign + ")", () -> program.append(sign), () -> model.append(sign));
        }
        both("firstError()", program::firstError, model::firstError);
        int die = most(3);
        both("load(" + die + ")", () -> program.load(die), () -> model.load(die));
    }

    private void changes(int kind) {
        int a = most(12);
        int b = most(12);
        int die = most(3);
        switch (kind) {
            case 0, 1, 2 -> foil();
            case 3, 4, 5 -> both("fold(" + a + ")", () -> program.fold(a), () -> model.fold(a));
            case 6, 7, 8 -> {
                int column = most(5);
                int row = most(5);
                int depth = most(10);
                both("point(" + die + ", " + column + ", " + row + ", " + depth + ")",
                        () -> program.point(die, column, row, depth),
                        () -> model.point(die, column, row, depth));
            }
            case 9, 10 -> both("cast(" + die + ", " + a + ", " + b + ")", () -> program.cast(die, a, b),
                    () -> model.cast(die, a, b));
            case 11 -> both("pin()", program::pin, model::pin);
            case 12 -> both("sheet()", program::sheet, model::sheet);
            default -> set();
        }
    }

    private void foil() {
        int foil = most(10);
        int x = most(12);
        int y = most(12);
        int toX = pick(4) == 0 ? most(12) : x + pick(6);
        int toY = pick(4) == 0 ? most(12) : y + pick(6);
        both("foil(" + foil + ", " + x + ", " + y + ", " + toX + ", " + toY + ")",
                () -> program.foil(foil, x, y, toX, toY), () -> model.foil(foil, x, y, toX, toY));
    }

    private void set() {
        int setting = most(4);
        int[] bounds = {100, 21, 10, 10};
        int value = setting == 0 && pick(3) > 0 ? pick(30) : most(bounds[Math.floorMod(setting, 4)]);
        both("set(" + setting + ", " + value + ")", () -> program.set(setting, value),
                () -> model.set(setting, value));
    }

    private void states() {
        int slot = most(2);
        switch (pick(5)) {
            case 0 -> both("keep(" + slot + ")", () -> program.keep(slot), () -> model.keep(slot));
            case 1 -> both("goBack(" + slot + ")", () -> program.goBack(slot), () -> model.goBack(slot));
            default -> both("undo()", program::undo, model::undo);
        }
    }

    private void looks() {
        int a = most(12);
        int b = most(12);
        int die = most(3);
        int other = most(3);
        int turn = most(8);
        int what = most(7);
        switch (pick(10)) {
            case 9 -> both("bits of wholeShare()", () -> Double.doubleToLongBits(program.wholeShare()),
                    () -> Double.doubleToLongBits(model.wholeShare()));
            case 0 -> both("gentlest(" + die + ", " + turn + ")", () -> program.gentlest(die, turn),
                    () -> model.gentlest(die, turn));
            case 1 -> both("ifFolded(" + a + ")", () -> program.ifFolded(a), () -> model.ifFolded(a));
            case 2 -> both("bestFold()", program::bestFold, model::bestFold);
            case 3 -> both("alike(" + die + ", " + other + ")", () -> program.alike(die, other),
                    () -> model.alike(die, other));
            case 4 -> both("setting(" + die + ")", () -> program.setting(die), () -> model.setting(die));
            case 5 -> both("count(" + a + ")", () -> program.count(a), () -> model.count(a));
            case 6 -> both("count(12 or 13)", () -> program.count(13 - turn % 2), () -> model.count(13 - turn % 2));
            case 7 -> {
                int column = most(5);
                int row = most(5);
                both("dieOf(" + die + ", " + column + ", " + row + ", " + turn + ")",
                        () -> program.dieOf(die, column, row, turn),
                        () -> model.dieOf(die, column, row, turn));
            }
            default -> both("place(" + a + ", " + b + ", " + what + ")", () -> program.place(a, b, what),
                    () -> model.place(a, b, what));
        }
    }
}
