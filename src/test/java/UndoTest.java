/** Promises 27 to 29: undo, and saved states. */
public final class UndoTest {
    private static final int BAD_VALUE = -100002;
    private static final int NOT_POSSIBLE = -100005;

    public static void main(String[] args) {
        undo();
        undoOfEveryChange();
        historyIsShort();
        errorsAndQuestionsAreNotRecorded();
        undoLeavesPadAndSlots();
        save();
        restore();
        restoreAgain();
        Check.end("UndoTest");
    }

    private static void undo() {
        TrailTeams x = new TrailTeams();
        Check.due("27: undo() of a new object", x.undo(), NOT_POSSIBLE);
        x.set(0, 20);
        x.set(0, 30);
        Check.due("27: undo()", x.undo(), 1);
        Check.due("27: the latest one is undone", x.count(0), 20);
        x.set(0, 40);
        Check.due("27: count(12)", x.count(12), 2);
        Check.due("27: undo() of the new one", x.undo(), 1);
        Check.due("27: as ahead of it", x.count(0), 20);
        Check.due("27: undo() of the first one", x.undo(), 0);
        Check.due("27: as at first", x.count(0), 10);
        Check.due("27: undo() without any", x.undo(), NOT_POSSIBLE);
    }

    private static TrailTeams busy() {
        TrailTeams x = new TrailTeams();
        Check.team(x, "b>a>d", 4);
        Check.team(x, "b>d>c", 3);
        x.lose(1, 1);
        x.hint(1, 3, true);
        x.save(0);
        Check.write(x, "e>f");
        return x;
    }

    private static int change(TrailTeams x, int number) {
        switch (number) {
            case 0: return x.set(1, 7);
            case 1: return x.place(1, 3, 4, 8);
            case 2: return x.close(1, true);
            case 3: return x.team(1);
            case 4: return x.route(0);
            case 5: return x.leave(0);
            case 6: return x.start(0, 99);
            case 7: return x.hint(0, 1, true);
            case 8: return x.lose(0, 1);
            case 9: return x.turn(0, 2);
            case 10: return x.exchange(0, 0, 2);
            case 11: return x.part();
            default: return x.restore(0);
        }
    }

    private static void undoOfEveryChange() {
        for (int number = 0; number <= 12; number++) {
            TrailTeams x = busy();
            x.set(2, 4);
            String before = Check.game(x);
            Check.due("27: change " + number + " has no error", change(x, number) > -100000 ? 1 : 0, 1);
            Check.due("27: change " + number + " makes a difference", Check.game(x).equals(before) ? 1 : 0, 0);
            Check.due("27: change " + number + " is recorded", x.count(12), 6);
            Check.due("27: undo() of change " + number, x.undo(), 5);
            Check.same("27: state behind undo() of change " + number, Check.game(x), before);
            x.undo();
            Check.due("27: undo() of the one ahead of it", x.count(2), 2);
        }
    }

    private static void historyIsShort() {
        TrailTeams x = new TrailTeams();
        for (int fee = 1; fee <= 9; fee++) {
            x.set(0, fee);
            Check.due("27: history", x.count(12), Math.min(fee, 6));
        }
        for (int left = 5; left >= 0; left--) {
            Check.due("27: undo()", x.undo(), left);
            Check.due("27: fee", x.count(0), 3 + left);
        }
        Check.due("27: the oldest ones are dropped", x.undo(), NOT_POSSIBLE);
        Check.due("27: fee at last", x.count(0), 3);
    }

    private static void errorsAndQuestionsAreNotRecorded() {
        TrailTeams x = busy();
        x.undo();
        int before = x.count(12);
        x.set(3, 0);
        x.place(0, 21, 0, 1);
        x.close(0, false);
        x.team(201);
        x.route(7);
        x.leave(7);
        x.start(0, -1);
        x.hint(0, 0, false);
        x.lose(0, 8);
        x.turn(0, 3);
        x.exchange(0, 1, 1);
        x.restore(1);
        x.restore(2);
        x.save(1);
        x.put(97);
        x.wipe();
        x.freeStart(0);
        x.bestExchange(0, 0);
        x.worstPlace(0);
        x.ifTurned(0, 1);
        Check.due("27: count(12)", x.count(12), before);
    }

    private static void undoLeavesPadAndSlots() {
        TrailTeams x = new TrailTeams();
        Check.team(x, "a>b", 0);
        x.save(0);
        x.put(Check.number("c"));
        Check.due("27: undo() of team", x.undo(), 0);
        Check.due("27: the pad stays", x.count(11), 1);
        Check.due("27: no teams", x.count(3), 0);
        Check.due("27: the slot stays", x.restore(0), 1);
        Check.due("27: its team", x.teamOf(0, 2), 2);
        x.wipe();
        Check.write(x, "h");
        x.route(0);
        Check.due("27: undo() of route", x.undo(), 1);
        Check.due("27: the pad stays empty", x.count(11), 0);
        Check.due("27: the old route", x.teamOf(0, 2), 2);
    }

    private static void save() {
        TrailTeams x = new TrailTeams();
        Check.due("28: save(-1)", x.save(-1), BAD_VALUE);
        Check.due("28: save(2)", x.save(2), BAD_VALUE);
        Check.due("28: save(0) without teams", x.save(0), 0);
        Check.team(x, "a", 5);
        Check.due("28: save(1)", x.save(1), 1);
        Check.due("28: it is no change", x.count(12), 1);
        Check.due("28: restore(0)", x.restore(0), 0);
        Check.due("28: restore(1)", x.restore(1), 1);
        x.start(0, 6);
        Check.due("28: save(1) overwrites", x.save(1), 1);
        x.start(0, 7);
        x.restore(1);
        Check.due("28: the later one", x.teamOf(0, 0), 6);
        Check.team(x, "b", 5);
        Check.due("28: save(0) with two", x.save(0), 2);
    }

    private static void restore() {
        TrailTeams x = busy();
        String saved = Check.game(x);
        Check.due("29: restore(-1)", x.restore(-1), BAD_VALUE);
        Check.due("29: restore(2)", x.restore(2), BAD_VALUE);
        Check.due("29: restore(1), not saved", x.restore(1), NOT_POSSIBLE);
        changeMuch(x);
        int pad = x.put(Check.number("g"));
        Check.due("29: restore(0)", x.restore(0), 2);
        Check.same("29: state", Check.game(x), saved);
        Check.due("29: the pad stays", x.count(11), pad);
        Check.due("29: it is recorded", x.count(12), 6);
    }

    private static void restoreAgain() {
        TrailTeams x = busy();
        String saved = Check.game(x);
        x.restore(0);
        changeMuch(x);
        Check.due("29: the slot keeps it", x.restore(0), 2);
        Check.same("29: state again", Check.game(x), saved);
    }

    private static void changeMuch(TrailTeams x) {
        for (int number = 0; number <= 11; number++) {
            change(x, number);
        }
    }
}
