/** Promises 1 a new object, 4 sheet, 5 pin, 6 foil, 9 set, 18 place, 19 count, 20 setting. */
public final class SheetTest {
    private static final String NO_PLACES = "0 ".repeat(144);

    public static void main(String[] args) {
        newObject();
        sheetIsNew();
        pinTakesSlipAway();
        foilLiesAndSticks();
        foilRefusesWrongInputs();
        setChanges();
        setRefusesWrongInputs();
        placeTells();
        placeRefusesWrongInputs();
        countTells();
        countAndSettingRefuseWrongInputs();
        Check.end();
    }

    private static void newObject() {
        EmbossPress p = new EmbossPress();
        Check.due("NONE", EmbossPress.NONE, -1);
        for (int what = 0; what < 14; what++) {
            Check.due("new count " + what, p.count(what), what == 11 ? 1 : 0);
        }
        for (int what = 0; what < 7; what++) {
            Check.dueOutcome("new places " + what, Check.places(new EmbossPress(), what),
                    what == 4 ? "12 ".repeat(144) : NO_PLACES);
        }
        for (int die = 0; die < 3; die++) {
            Check.dueOutcome("new die", Check.dieText(p, die, 0), "00000/00000/00000/00000/00000");
        }
        Check.due("new setting 0", p.setting(0), 12);
        Check.due("new setting 1", p.setting(1), 3);
        Check.due("new setting 2", p.setting(2), 9);
        Check.due("new setting 3", p.setting(3), 0);
        Check.due("new buffer", p.clearBuffer(), 0);
        Check.due("new firstError", p.firstError(), 0);
        Check.dueIllegalState(p, "new slot 0", () -> p.goBack(0));
        Check.dueIllegalState(p, "new slot 1", () -> p.goBack(1));
        Check.dueIllegalState(p, "new undo", p::undo);
        EmbossPress other = new EmbossPress();
        Check.pressPoint(other, 5, 5, 9);
        Check.due("another object does not matter", p.count(4), 0);
    }

    /** Cracked places, foil that sticks and foil that lies ready, a slip. */
    private static EmbossPress used() {
        EmbossPress p = new EmbossPress();
        p.set(3, 1);
        p.foil(4, 0, 0, 11, 11);
        Check.due("used press", Check.pressPoint(p, 5, 5, 9), 101);
        Check.due("used press", Check.pressPoint(p, 5, 7, 9), 101);
        p.foil(6, 2, 2, 3, 3);
        return p;
    }

    private static void sheetIsNew() {
        EmbossPress p = used();
        Check.due("slip before", p.count(2), 2);
        Check.due("sheet", p.sheet(), 2);
        for (int what = 0; what < 7; what++) {
            EmbossPress again = used();
            again.sheet();
            Check.dueOutcome("places " + what + " of the new sheet", Check.places(again, what),
                    what == 4 ? "12 ".repeat(144) : NO_PLACES);
        }
        int[] counts = {2, 0, 0, 0, 0, 0, 0, 0, 0, 0, 2, 2, 0, 6};
        for (int what = 0; what < counts.length; what++) {
            Check.due("count " + what + " behind sheet", p.count(what), counts[what]);
        }
        Check.due("dies stay", p.dieOf(2, 0, 0, 0), 9);
        Check.due("settings stay", p.setting(3), 1);
        Check.due("a whole sheet", p.sheet(), 0);
        Check.due("sheets", p.count(11), 3);
        p.undo();
        p.undo();
        Check.due("undone cracks", p.count(4), 2);
        Check.due("undone slip", p.count(2), 2);
        Check.due("undone ready foil", p.place(3, 3, 5), 1);
        Check.due("undone foil", p.place(5, 5, 1), 4);
        Check.due("undone pressings", p.place(5, 5, 6), 1);
        Check.due("undone sheets", p.count(11), 1);
    }

    private static void pinTakesSlipAway() {
        EmbossPress p = used();
        String cracks = Check.places(p, 2);
        Check.due("pin", p.pin(), 2);
        Check.due("slip behind pin", p.count(2), 0);
        Check.due("presses behind pin", p.count(1), 0);
        Check.due("presses so far behind pin", p.count(0), 2);
        Check.due("foil stays ready", p.count(9), 6);
        Check.dueOutcome("cracks stay", Check.places(p, 2), cracks);
        Check.due("pinned already", p.pin(), 0);
        Check.due("a pin that changes nothing is saved", p.undo(), 5);
        p.undo();
        Check.due("undone pin", p.count(2), 2);
        Check.due("undone pin", p.count(1), 2);
        p.pin();
        p.set(3, 2);
        Check.pressPoint(p, 0, 0, 1);
        Check.due("counted anew from the pin", p.count(2), 0);
        Check.pressPoint(p, 0, 0, 1);
        Check.due("counted anew from the pin", p.count(2), 1);
    }

    private static void foilLiesAndSticks() {
        EmbossPress p = new EmbossPress();
        Check.due("foil over one place", p.foil(1, 11, 11, 11, 11), 1);
        Check.due("foil over the sheet", p.foil(9, 0, 0, 11, 11), 144);
        Check.due("foil over a part", p.foil(3, 2, 4, 4, 5), 6);
        Check.due("the foil that lies ready", p.count(9), 3);
        for (int y = 0; y < 12; y++) {
            for (int x = 0; x < 12; x++) {
                int over = x >= 2 && x <= 4 && y >= 4 && y <= 5 ? 1 : 0;
                Check.due("ready over " + x + " " + y, p.place(x, y, 5), over);
            }
        }
        Check.due("nothing sticks yet", p.count(8), 0);
        Check.due("foil is saved", p.undo(), 2);
        Check.due("undone foil", p.count(9), 9);
        p.undo();
        Check.due("undone foil", p.place(11, 11, 5), 1);
        Check.due("undone foil", p.place(10, 11, 5), 0);
    }

    private static void foilRefusesWrongInputs() {
        EmbossPress p = new EmbossPress();
        p.foil(2, 1, 1, 2, 2);
        Check.dueOutOfBounds(p, "foil x -1", () -> p.foil(1, -1, 0, 0, 0));
        Check.dueOutOfBounds(p, "foil y -1", () -> p.foil(1, 0, -1, 0, 0));
        Check.dueOutOfBounds(p, "foil x 12", () -> p.foil(1, 12, 0, 12, 0));
        Check.dueOutOfBounds(p, "foil y 12", () -> p.foil(1, 0, 12, 0, 12));
        Check.dueOutOfBounds(p, "foil toX 12", () -> p.foil(1, 0, 0, 12, 0));
        Check.dueOutOfBounds(p, "foil toY 12", () -> p.foil(1, 0, 0, 0, 12));
        Check.dueOutOfBounds(p, "foil toX -1", () -> p.foil(1, 0, 0, -1, 0));
        Check.dueOutOfBounds(p, "foil toY -1", () -> p.foil(1, 0, 0, 0, -1));
        Check.dueOutOfBounds(p, "foil 0 off the sheet", () -> p.foil(0, 0, 0, 0, 12));
        Check.dueIllegal(p, "foil 0", () -> p.foil(0, 0, 0, 0, 0));
        Check.dueIllegal(p, "foil 10", () -> p.foil(10, 0, 0, 0, 0));
        Check.dueIllegal(p, "foil toX less", () -> p.foil(1, 3, 3, 2, 3));
        Check.dueIllegal(p, "foil toY less", () -> p.foil(1, 3, 3, 3, 2));
    }

    private static void setChanges() {
        EmbossPress p = new EmbossPress();
        int[] first = {12, 3, 9, 0};
        int[] least = {0, 0, 1, 0};
        int[] greatest = {99, 20, 9, 9};
        for (int i = 0; i < 4; i++) {
            Check.due("set to the least", p.set(i, least[i]), first[i]);
            Check.due("the least", p.setting(i), least[i]);
            Check.due("set to the greatest", p.set(i, greatest[i]), least[i]);
            Check.due("the greatest", p.setting(i), greatest[i]);
        }
        Check.due("set is saved", p.undo(), 5);
        Check.due("undone set", p.setting(3), 0);
        EmbossPress q = new EmbossPress();
        q.set(0, 36);
        Check.pressPoint(q, 5, 5, 9);
        Check.due("set cracks nothing at once", q.set(0, 0), 36);
        Check.due("set cracks nothing at once", q.count(4), 0);
        Check.due("but the next press does", Check.pressPoint(q, 0, 0, 1), 108);
    }

    private static void setRefusesWrongInputs() {
        EmbossPress p = new EmbossPress();
        Check.dueOutOfBounds(p, "set 4", () -> p.set(4, 1));
        Check.dueOutOfBounds(p, "set -1", () -> p.set(-1, 1));
        Check.dueOutOfBounds(p, "set 4 to 100", () -> p.set(4, 100));
        Check.dueIllegal(p, "set 0 to 100", () -> p.set(0, 100));
        Check.dueIllegal(p, "set 0 to -1", () -> p.set(0, -1));
        Check.dueIllegal(p, "set 1 to 21", () -> p.set(1, 21));
        Check.dueIllegal(p, "set 1 to -1", () -> p.set(1, -1));
        Check.dueIllegal(p, "set 2 to 0", () -> p.set(2, 0));
        Check.dueIllegal(p, "set 2 to 10", () -> p.set(2, 10));
        Check.dueIllegal(p, "set 3 to 10", () -> p.set(3, 10));
        Check.dueIllegal(p, "set 3 to -1", () -> p.set(3, -1));
        Check.dueOutOfBounds(p, "setting 4", () -> p.setting(4));
        Check.dueOutOfBounds(p, "setting -1", () -> p.setting(-1));
    }

    private static void placeTells() {
        EmbossPress p = new EmbossPress();
        p.foil(7, 5, 5, 5, 5);
        Check.due("press", Check.pressPoint(p, 5, 5, 9), 101);
        Check.pressPoint(p, 5, 5, 4);
        Check.pressPoint(p, 0, 0, 2);
        p.foil(8, 0, 0, 1, 0);
        dueProperties(p, 5, 5, new int[] {9, 7, 1, 36, 12, 0, 2});
        dueProperties(p, 4, 5, new int[] {0, 0, 0, 9, 9, 0, 0});
        dueProperties(p, 5, 6, new int[] {0, 0, 0, 9, 9, 0, 0});
        dueProperties(p, 4, 4, new int[] {0, 0, 0, 0, 12, 0, 0});
        dueProperties(p, 0, 0, new int[] {2, 0, 0, 4, 12, 1, 1});
        dueProperties(p, 1, 0, new int[] {0, 0, 0, 2, 12, 1, 0});
        dueProperties(p, 0, 1, new int[] {0, 0, 0, 2, 12, 0, 0});
        // The end of a row is no neighbour of the start of the next one.
        Check.pressPoint(p, 11, 2, 3);
        Check.due("strain at the end of a row", p.place(11, 2, 3), 9);
        Check.due("strain at the start of the next row", p.place(0, 3, 3), 0);
        p.set(0, 2);
        Check.due("bears at least 0", p.place(4, 5, 4), 0);
        p.set(1, 2);
        Check.due("bears 0", p.place(4, 5, 4), 0);
        p.set(1, 1);
        Check.due("bears 1", p.place(4, 5, 4), 1);
    }

    private static void dueProperties(EmbossPress p, int x, int y, int[] want) {
        for (int what = 0; what < want.length; what++) {
            Check.due("place " + x + " " + y + " " + what, p.place(x, y, what), want[what]);
        }
    }

    private static void placeRefusesWrongInputs() {
        EmbossPress p = new EmbossPress();
        Check.dueOutOfBounds(p, "place x 12", () -> p.place(12, 0, 0));
        Check.dueOutOfBounds(p, "place x -1", () -> p.place(-1, 1, 0));
        Check.dueOutOfBounds(p, "place y 12", () -> p.place(0, 12, 0));
        Check.dueOutOfBounds(p, "place y -1", () -> p.place(0, -1, 0));
        Check.dueOutOfBounds(p, "place off and what wrong", () -> p.place(0, 12, 7));
        Check.dueIllegal(p, "place what 7", () -> p.place(0, 0, 7));
        Check.dueIllegal(p, "place what -1", () -> p.place(0, 0, -1));
    }

    private static void countTells() {
        EmbossPress p = used();
        p.press(2, 99, 0, 0);
        p.press(1, 0, 0, 0);
        p.pin();
        Check.pressPoint(p, 0, 0, 2);
        Check.due("fold", p.fold(9), 0);
        // Strain: two points of 9 inside and one of 2 in a corner.
        int strain = 2 * (4 * 9 + 4 * 9 + 2 * 2);
        int[] want = {3, 1, 1, 2, 2, 9, strain, strain, 1, 0, 2, 1, 1, 6};
        for (int what = 0; what < want.length; what++) {
            Check.due("count " + what, p.count(what), want[what]);
        }
        p.sheet();
        Check.pressPoint(p, 1, 1, 9);
        Check.due("cracks on all sheets", p.count(10), 3);
        Check.due("cracks on this sheet", p.count(4), 1);
        p.foil(5, 0, 0, 0, 0);
        Check.due("ready foil", p.count(9), 5);
    }

    private static void countAndSettingRefuseWrongInputs() {
        EmbossPress p = new EmbossPress();
        Check.dueIllegal(p, "count 14", () -> p.count(14));
        Check.dueIllegal(p, "count -1", () -> p.count(-1));
        Check.dueIllegal(p, "count far", () -> p.count(Integer.MIN_VALUE));
    }
}
