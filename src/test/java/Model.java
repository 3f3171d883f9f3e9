import java.util.ArrayDeque;
import java.util.regex.Matcher;
import java.util.regex.Pattern;

/**
 * The document once more, written without any thought of speed or room, and in another way than
 * the program: what both say must be the same. A call that is due to throw answers "throws." and
 * the exception's name, as the looks of Check do.
 */
final class Model {
    static final class Thrown extends Exception {
        private static final long serialVersionUID = 1L;

        Thrown(String name) {
            super("throws." + name);
        }
    }

    private static final Pattern DIE = Pattern.compile("[0-9.]{1,5}(/[0-9.]{1,5}){0,4}");
    private static final int[][] RANGES = {{0, 99}, {0, 20}, {1, 9}, {0, 9}};
    private static final int[][] SIDES = {{1, 0}, {-1, 0}, {0, 1}, {0, -1}};

    private static final class All {
        int[][][] dies = new int[3][5][5];
        int[][] depth = new int[12][12];
        int[][] foil = new int[12][12];
        int[][] pressed = new int[12][12];
        boolean[][] cracked = new boolean[12][12];
        int[] settings = {12, 3, 9, 0};
        int[] ready = null;
        int slip;
        int presses;
        int sincePin;
        int refused;
        int cracks;
        int sheets = 1;
        int folds;

        All copy() {
            All other = new All();
            for (int i = 0; i < 3; i++) {
                other.dies[i] = copyOf(dies[i]);
            }
            other.depth = copyOf(depth);
            other.foil = copyOf(foil);
            other.pressed = copyOf(pressed);
            for (int i = 0; i < 12; i++) {
                other.cracked[i] = cracked[i].clone();
            }
            other.settings = settings.clone();
            other.ready = ready == null ? null : ready.clone();
            other.slip = slip;
            other.presses = presses;
            other.sincePin = sincePin;
            other.refused = refused;
            other.cracks = cracks;
            other.sheets = sheets;
            other.folds = folds;
            return other;
        }

        private static int[][] copyOf(int[][] rows) {
            int[][] copy = new int[rows.length][];
            for (int i = 0; i < rows.length; i++) {
                copy[i] = rows[i].clone();
            }
            return copy;
        }

        int strain(int x, int y) {
            int sum = 0;
            for (int[] side : SIDES) {
                if (onSheet(x + side[0], y + side[1])) {
                    sum += Math.abs(depth[y][x] - depth[y + side[1]][x + side[0]]);
                }
            }
            return sum;
        }

        int bears(int x, int y) {
            int left = settings[0];
            for (int[] side : SIDES) {
                if (onSheet(x + side[0], y + side[1]) && cracked[y + side[1]][x + side[0]]) {
                    left -= settings[1];
                }
            }
            return Math.max(left, 0);
        }

        int countCracked() {
            int sum = 0;
            for (boolean[] row : cracked) {
                for (boolean one : row) {
                    sum += one ? 1 : 0;
                }
            }
            return sum;
        }

        void crackOn() {
            boolean more = true;
            while (more) {
                boolean[][] next = new boolean[12][12];
                more = false;
                for (int y = 0; y < 12; y++) {
                    for (int x = 0; x < 12; x++) {
                        boolean breaks = !cracked[y][x] && strain(x, y) > bears(x, y);
                        next[y][x] = cracked[y][x] || breaks;
                        more |= breaks;
                    }
                }
                cracked = next;
            }
        }

        /** The turned die, by where each point comes to, as the document tells it. */
        int[][] turned(int die, int turn) {
            int[][] now = dies[die];
            if (turn >= 4) {
                int[][] next = new int[5][5];
                for (int b = 0; b < 5; b++) {
                    for (int a = 0; a < 5; a++) {
                        next[b][4 - a] = now[b][a];
                    }
                }
                now = next;
            }
            for (int i = 0; i < turn % 4; i++) {
                int[][] next = new int[5][5];
                for (int b = 0; b < 5; b++) {
                    for (int a = 0; a < 5; a++) {
                        next[a][4 - b] = now[b][a];
                    }
                }
                now = next;
            }
            return now;
        }

        int reason(int[][] die, long x, long y) {
            boolean off = false;
            boolean deep = false;
            boolean any = false;
            for (int b = 0; b < 5; b++) {
                for (int a = 0; a < 5; a++) {
                    if (die[b][a] > 0) {
                        any = true;
                        off |= !onSheet(x + slip + a, y + b);
                        deep |= die[b][a] > settings[2];
                    }
                }
            }
            return off ? 1 : deep ? 2 : any ? 0 : 3;
        }

        int press(int die, int x, int y, int turn) {
            int[][] points = turned(die, turn);
            int reason = reason(points, x, y);
            if (reason != 0) {
                refused++;
                return reason;
            }
            int before = countCracked();
            for (int b = 0; b < 5; b++) {
                for (int a = 0; a < 5; a++) {
                    if (points[b][a] > 0) {
                        int column = x + slip + a;
                        int row = y + b;
                        depth[row][column] = Math.max(depth[row][column], points[b][a]);
                        pressed[row][column]++;
                        if (readyOver(column, row)) {
                            foil[row][column] = ready[0];
                        }
                    }
                }
            }
            ready = null;
            crackOn();
            presses++;
            sincePin++;
            if (settings[3] != 0 && sincePin % settings[3] == 0) {
                slip = Math.min(3, slip + 1);
            }
            int by = countCracked() - before;
            cracks += by;
            return 100 + by;
        }

        boolean readyOver(int x, int y) {
            return ready != null && x >= ready[1] && y >= ready[2] && x <= ready[3] && y <= ready[4];
        }

        int fold(int row) {
            int before = countCracked();
            boolean[][] next = new boolean[12][12];
            for (int y = 0; y < 12; y++) {
                for (int x = 0; x < 12; x++) {
                    next[y][x] = cracked[y][x];
                    if (y == row || y == row - 1) {
                        int step = Math.abs(depth[row][x] - depth[row - 1][x]);
                        next[y][x] |= step > Math.floorDiv(bears(x, y), 2);
                    }
                }
            }
            cracked = next;
            crackOn();
            folds++;
            int by = countCracked() - before;
            cracks += by;
            return by;
        }
    }

    private All now = new All();
    private final All[] slots = new All[2];
    private final ArrayDeque<All> saved = new ArrayDeque<>();
    private String buffer = "";

    static boolean onSheet(long x, long y) {
        return x >= 0 && x <= 11 && y >= 0 && y <= 11;
    }

    private static void bounds(boolean right) throws Thrown {
        if (!right) {
            throw new Thrown("IndexOutOfBoundsException");
        }
    }

    private static void argument(boolean right) throws Thrown {
        if (!right) {
            throw new Thrown("IllegalArgumentException");
        }
    }

    private static void state(boolean right) throws Thrown {
        if (!right) {
            throw new Thrown("IllegalStateException");
        }
    }

    private static boolean within(int value, int least, int greatest) {
        return least <= value && value <= greatest;
    }

    private void save() {
        saved.addLast(now.copy());
        if (saved.size() > 6) {
            saved.removeFirst();
        }
    }

    long point(int die, int column, int row, int depth) throws Thrown {
        bounds(within(die, 0, 2) && within(column, 0, 4) && within(row, 0, 4));
        argument(within(depth, 0, 9));
        save();
        int before = now.dies[die][row][column];
        now.dies[die][row][column] = depth;
        return before;
    }

    private long above(int die) {
        long above = 0;
        for (int[] row : now.dies[die]) {
            for (int depth : row) {
                above += depth > 0 ? 1 : 0;
            }
        }
        return above;
    }

    long cast(int die, int x, int y) throws Thrown {
        bounds(within(die, 0, 2) && onSheet(x, y));
        save();
        for (int b = 0; b < 5; b++) {
            for (int a = 0; a < 5; a++) {
                now.dies[die][b][a] = onSheet(x + a, y + b) ? Math.min(9, now.depth[y + b][x + a]) : 0;
            }
        }
        return above(die);
    }

    long sheet() {
        save();
        int before = now.countCracked();
        now.depth = new int[12][12];
        now.foil = new int[12][12];
        now.pressed = new int[12][12];
        now.cracked = new boolean[12][12];
        now.slip = 0;
        now.sincePin = 0;
        now.ready = null;
        now.sheets++;
        return before;
    }

    long pin() {
        save();
        int before = now.slip;
        now.slip = 0;
        now.sincePin = 0;
        return before;
    }

    long foil(int foil, int x, int y, int toX, int toY) throws Thrown {
        bounds(onSheet(x, y) && onSheet(toX, toY));
        argument(within(foil, 1, 9) && toX >= x && toY >= y);
        save();
        now.ready = new int[] {foil, x, y, toX, toY};
        long over = 0;
        for (int i = 0; i < 144; i++) {
            over += now.readyOver(i % 12, i / 12) ? 1 : 0;
        }
        return over;
    }

    private static void pressArguments(int die, int turn) throws Thrown {
        bounds(within(die, 0, 2));
        argument(within(turn, 0, 7));
    }

    long press(int die, int x, int y, int turn) throws Thrown {
        pressArguments(die, turn);
        save();
        return now.press(die, x, y, turn);
    }

    long fold(int row) throws Thrown {
        bounds(within(row, 1, 11));
        save();
        return now.fold(row);
    }

    long set(int setting, int value) throws Thrown {
        bounds(within(setting, 0, 3));
        argument(within(value, RANGES[setting][0], RANGES[setting][1]));
        save();
        int before = now.settings[setting];
        now.settings[setting] = value;
        return before;
    }

    long append(int code) throws Thrown {
        argument(within(code, 33, 126));
        state(buffer.length() < 40);
        buffer = buffer + (char) code;
        return buffer.length();
    }

    long clearBuffer() {
        int before = buffer.length();
        buffer = "";
        return before;
    }

    long firstError() {
        for (int i = 0; i < buffer.length(); i++) {
            Matcher matcher = DIE.matcher(buffer.substring(0, i + 1));
            if (!matcher.matches() && !matcher.hitEnd()) {
                return i;
            }
        }
        return buffer.length();
    }

    long load(int die) throws Thrown {
        bounds(within(die, 0, 2));
        argument(DIE.matcher(buffer).matches());
        save();
        String[] rows = buffer.split("/");
        for (int b = 0; b < 5; b++) {
            for (int a = 0; a < 5; a++) {
                char sign = b < rows.length && a < rows[b].length() ? rows[b].charAt(a) : '.';
                now.dies[die][b][a] = sign == '.' ? 0 : sign - '0';
            }
        }
        buffer = "";
        return above(die);
    }

    long keep(int slot) throws Thrown {
        argument(within(slot, 0, 1));
        slots[slot] = now.copy();
        return now.presses;
    }

    long goBack(int slot) throws Thrown {
        argument(within(slot, 0, 1));
        state(slots[slot] != null);
        save();
        now = slots[slot].copy();
        return now.presses;
    }

    long undo() throws Thrown {
        state(!saved.isEmpty());
        now = saved.removeLast();
        return saved.size();
    }

    long dieOf(int die, int column, int row, int turn) throws Thrown {
        bounds(within(die, 0, 2) && within(column, 0, 4) && within(row, 0, 4));
        argument(within(turn, 0, 7));
        return now.turned(die, turn)[row][column];
    }

    long place(int x, int y, int what) throws Thrown {
        bounds(onSheet(x, y));
        argument(within(what, 0, 6));
        return new long[] {now.depth[y][x], now.foil[y][x], now.cracked[y][x] ? 1 : 0, now.strain(x, y),
            now.bears(x, y), now.readyOver(x, y) ? 1 : 0, now.pressed[y][x]}[what];
    }

    long count(int what) throws Thrown {
        argument(within(what, 0, 13));
        int greatest = 0;
        int strain = 0;
        int foils = 0;
        for (int i = 0; i < 144; i++) {
            greatest = Math.max(greatest, now.depth[i / 12][i % 12]);
            strain += now.strain(i % 12, i / 12);
            foils += now.foil[i / 12][i % 12] > 0 ? 1 : 0;
        }
        return new long[] {now.presses, now.sincePin, now.slip, now.refused, now.countCracked(), greatest,
            strain, strain, foils, now.ready == null ? 0 : now.ready[0], now.cracks, now.sheets, now.folds,
            saved.size()}[what];
    }

    long setting(int setting) throws Thrown {
        bounds(within(setting, 0, 3));
        return now.settings[setting];
    }

    long ifPressed(int die, int x, int y, int turn) throws Thrown {
        pressArguments(die, turn);
        return now.copy().press(die, x, y, turn);
    }

    long gentlest(int die, int turn) throws Thrown {
        pressArguments(die, turn);
        long best = -1;
        long least = Long.MAX_VALUE;
        for (int y = 0; y < 12; y++) {
            for (int x = 0; x < 12; x++) {
                long told = now.copy().press(die, x, y, turn);
                if (told >= 100 && told < least) {
                    least = told;
                    best = 100 * y + x;
                }
            }
        }
        return best;
    }

    long ifFolded(int row) throws Thrown {
        bounds(within(row, 1, 11));
        return now.copy().fold(row);
    }

    long bestFold() {
        int best = 1;
        for (int row = 2; row < 12; row++) {
            if (now.copy().fold(row) < now.copy().fold(best)) {
                best = row;
            }
        }
        return best;
    }

    long alike(int one, int other) throws Thrown {
        bounds(within(one, 0, 2) && within(other, 0, 2));
        for (int turn = 0; turn < 8; turn++) {
            if (java.util.Arrays.deepEquals(now.turned(one, turn), now.dies[other])) {
                return turn;
            }
        }
        return -1;
    }

    long needed(int die, int x, int y, int turn) throws Thrown {
        pressArguments(die, turn);
        for (int bears = 0; bears < 100; bears++) {
            All copy = now.copy();
            copy.settings[0] = bears;
            if (copy.press(die, x, y, turn) == 100) {
                return bears;
            }
        }
        return -1;
    }

    double wholeShare() {
        return (144 - now.countCracked()) / 144.0;
    }

    long digest() throws Thrown {
        long hash = 3319;
        for (int what = 0; what < 14; what++) {
            hash = 31 * hash + count(what);
        }
        for (int value : now.settings) {
            hash = 31 * hash + value;
        }
        for (int i = 0; i < 75; i++) {
            hash = 31 * hash + now.dies[i / 25][i / 5 % 5][i % 5];
        }
        for (int i = 0; i < 144 * 7; i++) {
            hash = 31 * hash + place(i / 7 % 12, i / 84, i % 7);
        }
        for (int die = 0; die < 3; die++) {
            hash = 31 * hash + ifPressed(die, 3, 4, 0);
            hash = 31 * hash + gentlest(die, 0);
            hash = 31 * hash + alike(die, 0);
            hash = 31 * hash + needed(die, 3, 4, 0);
        }
        for (int row = 1; row < 12; row++) {
            hash = 31 * hash + ifFolded(row);
        }
        hash = 31 * hash + bestFold();
        hash = 31 * hash + Double.doubleToLongBits(wholeShare());
        for (All slot : slots) {
            hash = 31 * hash + (slot == null ? 0 : 1);
        }
        hash = 31 * hash + buffer.length();
        for (char code : buffer.toCharArray()) {
            hash = 31 * hash + code;
        }
        return hash;
    }
}
