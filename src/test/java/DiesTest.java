/** Promises 2 point, 3 cast, 17 dieOf, 25 alike. */
public final class DiesTest {
    private static final String CORNER = "12345/6..../7..../8..../9....";

    public static void main(String[] args) {
        pointChanges();
        pointRefusesWrongInputs();
        castReadsRelief();
        castAtEdges();
        castRefusesWrongInputs();
        dieOfTurns();
        dieOfRefusesWrongInputs();
        alikeFindsLeastTurn();
        alikeRefusesWrongInputs();
        Check.end();
    }

    private static void pointChanges() {
        EmbossPress p = new EmbossPress();
        Check.due("point first", p.point(0, 1, 3, 7), 0);
        Check.due("point again", p.point(0, 1, 3, 9), 7);
        Check.due("point to 0", p.point(0, 1, 3, 0), 9);
        Check.due("point of another die", p.point(2, 4, 4, 5), 0);
        Check.due("point corner", p.point(2, 0, 0, 1), 0);
        Check.dueOutcome("die 0", Check.dieText(p, 0, 0), "00000/00000/00000/00000/00000");
        Check.dueOutcome("die 1", Check.dieText(p, 1, 0), "00000/00000/00000/00000/00000");
        Check.dueOutcome("die 2", Check.dieText(p, 2, 0), "10000/00000/00000/00000/00005");
        Check.due("saved states behind points", p.count(13), 5);
        p.point(2, 0, 0, 1);
        Check.due("a point that changes nothing is saved", p.count(13), 6);
        p.undo();
        p.undo();
        Check.due("undone point", p.dieOf(2, 0, 0, 0), 0);
        Check.due("point that stays", p.dieOf(2, 4, 4, 0), 5);
        p.set(2, 1);
        Check.due("setting 2 does not bind point", p.point(1, 2, 2, 9), 0);
    }

    private static void pointRefusesWrongInputs() {
        EmbossPress p = new EmbossPress();
        Check.dueOutOfBounds(p, "point die 3", () -> p.point(3, 0, 0, 0));
        Check.dueOutOfBounds(p, "point die -1", () -> p.point(-1, 0, 0, 0));
        Check.dueOutOfBounds(p, "point column 5", () -> p.point(0, 5, 0, 0));
        Check.dueOutOfBounds(p, "point column -1", () -> p.point(0, -1, 0, 0));
        Check.dueOutOfBounds(p, "point row 5", () -> p.point(0, 0, 5, 0));
        Check.dueOutOfBounds(p, "point row -1", () -> p.point(0, 0, -1, 0));
        Check.dueOutOfBounds(p, "point all wrong", () -> p.point(7, 0, 0, 10));
        Check.dueOutOfBounds(p, "point column and depth wrong", () -> p.point(0, 9, 0, -1));
        Check.dueIllegal(p, "point depth 10", () -> p.point(0, 0, 0, 10));
        Check.dueIllegal(p, "point depth -1", () -> p.point(0, 0, 0, -1));
        Check.dueOutOfBounds(p, "point far", () -> p.point(0, Integer.MIN_VALUE, Integer.MAX_VALUE, 1));
    }

    private static EmbossPress embossed() {
        EmbossPress p = new EmbossPress();
        p.set(0, 99);
        Check.loadText(p, 0, "12345/23456/34567/45678/56789");
        p.press(0, 7, 7, 0);
        p.press(0, 0, 0, 0);
        return p;
    }

    private static void castReadsRelief() {
        EmbossPress p = embossed();
        Check.loadText(p, 1, "99999/99999/99999/99999/99999");
        Check.due("cast middle", p.cast(1, 2, 1), 12);
        Check.dueOutcome("cast middle", Check.dieText(p, 1, 0), "45600/56700/67800/78900/00000");
        Check.dueOutcome("cast leaves the others", Check.dieText(p, 0, 0),
                "12345/23456/34567/45678/56789");
        p.undo();
        Check.dueOutcome("undone cast", Check.dieText(p, 1, 0), "99999/99999/99999/99999/99999");
        Check.due("cast of the whole", p.cast(2, 7, 7), 25);
        Check.dueOutcome("cast of the whole", Check.dieText(p, 2, 0), "12345/23456/34567/45678/56789");
        Check.due("cast of nothing", p.cast(2, 0, 5), 0);
        Check.due("a cast is saved", p.count(13), 6);
    }

    private static void castAtEdges() {
        EmbossPress p = embossed();
        Check.due("cast right below", p.cast(0, 11, 11), 1);
        Check.dueOutcome("cast right below", Check.dieText(p, 0, 0), "90000/00000/00000/00000/00000");
        Check.due("cast right", p.cast(0, 9, 7), 15);
        Check.dueOutcome("cast right", Check.dieText(p, 0, 0), "34500/45600/56700/67800/78900");
        Check.due("cast below", p.cast(0, 7, 10), 10);
        Check.dueOutcome("cast below", Check.dieText(p, 0, 0), "45678/56789/00000/00000/00000");
        EmbossPress q = embossed();
        q.set(3, 1);
        Check.loadText(q, 2, "1");
        q.press(2, 0, 0, 0);
        Check.due("slip", q.count(2), 1);
        q.cast(1, 0, 0);
        Check.due("the slip does not move a cast", q.dieOf(1, 0, 0, 0), 1);
        Check.due("the slip does not move a cast", q.dieOf(1, 4, 4, 0), 9);
    }

    private static void castRefusesWrongInputs() {
        EmbossPress p = embossed();
        Check.dueOutOfBounds(p, "cast die 3", () -> p.cast(3, 0, 0));
        Check.dueOutOfBounds(p, "cast die -1", () -> p.cast(-1, 0, 0));
        Check.dueOutOfBounds(p, "cast column 12", () -> p.cast(0, 12, 0));
        Check.dueOutOfBounds(p, "cast column -1", () -> p.cast(0, -1, 0));
        Check.dueOutOfBounds(p, "cast row 12", () -> p.cast(0, 0, 12));
        Check.dueOutOfBounds(p, "cast row -1", () -> p.cast(0, 0, -1));
        Check.dueOutOfBounds(p, "cast far", () -> p.cast(0, Integer.MAX_VALUE, Integer.MIN_VALUE));
    }

    private static void dieOfTurns() {
        EmbossPress p = new EmbossPress();
        Check.loadText(p, 1, CORNER);
        String[] turned = {
            "12345/60000/70000/80000/90000",
            "98761/00002/00003/00004/00005",
            "00009/00008/00007/00006/54321",
            "50000/40000/30000/20000/16789",
            "54321/00006/00007/00008/00009",
            "00005/00004/00003/00002/98761",
            "90000/80000/70000/60000/12345",
            "16789/20000/30000/40000/50000",
        };
        for (int turn = 0; turn < 8; turn++) {
            Check.dueOutcome("turn " + turn, Check.dieText(p, 1, turn), turned[turn]);
        }
        Check.due("dieOf changes nothing", p.count(13), 1);
    }

    private static void dieOfRefusesWrongInputs() {
        EmbossPress p = new EmbossPress();
        Check.dueOutOfBounds(p, "dieOf die 3", () -> p.dieOf(3, 0, 0, 0));
        Check.dueOutOfBounds(p, "dieOf die -1", () -> p.dieOf(-1, 0, 0, 0));
        Check.dueOutOfBounds(p, "dieOf column 5", () -> p.dieOf(0, 5, 0, 0));
        Check.dueOutOfBounds(p, "dieOf column -1", () -> p.dieOf(0, -1, 0, 0));
        Check.dueOutOfBounds(p, "dieOf row 5", () -> p.dieOf(0, 0, 5, 0));
        Check.dueOutOfBounds(p, "dieOf row -1", () -> p.dieOf(0, 0, -1, 0));
        Check.dueOutOfBounds(p, "dieOf row and turn wrong", () -> p.dieOf(0, 0, 5, 8));
        Check.dueIllegal(p, "dieOf turn 8", () -> p.dieOf(0, 0, 0, 8));
        Check.dueIllegal(p, "dieOf turn -1", () -> p.dieOf(0, 0, 0, -1));
    }

    private static void alikeFindsLeastTurn() {
        for (int turn = 0; turn < 8; turn++) {
            EmbossPress p = new EmbossPress();
            Check.loadText(p, 0, CORNER);
            Check.loadText(p, 1, Check.dieText(p, 0, turn));
            Check.due("alike by turn " + turn, p.alike(0, 1), turn);
            // A quarter back undoes a quarter; a mirroring undoes itself.
            Check.due("alike back from " + turn, p.alike(1, 0), turn == 1 ? 3 : turn == 3 ? 1 : turn);
            Check.due("alike to itself", p.alike(1, 1), 0);
            Check.due("alike to an empty die", p.alike(1, 2), EmbossPress.NONE);
        }
        EmbossPress p = new EmbossPress();
        Check.due("empty dies", p.alike(0, 2), 0);
        Check.loadText(p, 0, "1...1");
        Check.loadText(p, 1, "1/./././1");
        Check.due("the least of several", p.alike(0, 1), 3);
        Check.loadText(p, 2, "2...1");
        Check.due("one depth differs", p.alike(0, 2), EmbossPress.NONE);
        Check.due("alike changes nothing", p.count(13), 3);
    }

    private static void alikeRefusesWrongInputs() {
        EmbossPress p = new EmbossPress();
        Check.dueOutOfBounds(p, "alike 3 0", () -> p.alike(3, 0));
        Check.dueOutOfBounds(p, "alike -1 0", () -> p.alike(-1, 0));
        Check.dueOutOfBounds(p, "alike 0 3", () -> p.alike(0, 3));
        Check.dueOutOfBounds(p, "alike 0 -1", () -> p.alike(0, -1));
    }
}
