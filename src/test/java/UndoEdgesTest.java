import java.util.ArrayDeque;
import java.util.Deque;

/** The boundary cases of promises 27 to 29. */
public final class UndoEdgesTest {
    private static final int BAD_VALUE = -100002;
    private static final int NOT_POSSIBLE = -100005;
    private static final int NONE = -100006;

    public static void main(String[] args) {
        historyOfEachLength();
        theHistoryGoesRound();
        historyOfTheLongestRun();
        changesThatMakeNoDifference();
        refusedChangesAreNotRecorded();
        otherCallsAreNotRecorded();
        undoIsNoChange();
        undoLeavesThePad();
        undoLeavesTheSlots();
        undoOfTeams();
        undoOfAllTeams();
        saveInBothSlots();
        saveIsNoChange();
        saveOfNoneAndSix();
        saveOverwrites();
        restoreOfAnEmptySlot();
        restoreKeepsTheSlot();
        restoreWithAFullHistory();
        restoreLeavesPadAndOtherSlot();
        restoreBringsEverythingBack();
        restoreOfWhatIsThere();
        Check.end("UndoEdgesTest");
    }

    private static void historyOfEachLength() {
        Check.says("27: A history of at most 6 states is kept; when one more is recorded, the oldest one is dropped");
        for (int changes = 0; changes <= 20; changes++) {
            TrailTeams x = new TrailTeams();
            for (int prize = 1; prize <= changes; prize++) {
                x.set(1, prize);
                Check.due("changes that can be undone", x.count(12), Math.min(prize, 6));
            }
            int kept = Math.min(changes, 6);
            for (int undone = 1; undone <= kept; undone++) {
                Check.due("undo() of " + changes, x.undo(), kept - undone);
                Check.due("the prize then", x.count(1), changes == undone ? 200 : changes - undone);
            }
            int prize = x.count(1);
            Check.due("undo() of none", x.undo(), NOT_POSSIBLE);
            Check.due("the prize stays", x.count(1), prize);
            Check.due("changes that can be undone", x.count(12), 0);
        }
    }

    /** The history against a list, with changes and undos in turns, so that it goes round several times. */
    private static void theHistoryGoesRound() {
        Check.says("27: Undoes the latest change");
        for (int rhythm = 2; rhythm <= 9; rhythm++) {
            TrailTeams x = new TrailTeams();
            Deque<Integer> history = new ArrayDeque<>();
            int prize = 200;
            for (int call = 1; call <= 120; call++) {
                if (call % rhythm == 0 || call % 7 == 0) {
                    Check.due("undo()", x.undo(), history.isEmpty() ? NOT_POSSIBLE : history.size() - 1);
                    prize = history.isEmpty() ? prize : history.removeLast();
                } else {
                    Check.due("set(1, " + call + ")", x.set(1, call), prize);
                    history.addLast(prize);
                    prize = call;
                }
                while (history.size() > 6) {
                    history.removeFirst();
                }
                Check.due("the prize", x.count(1), prize);
                Check.due("changes that can be undone", x.count(12), history.size());
            }
        }
    }

    private static void historyOfTheLongestRun() {
        TrailTeams x = new TrailTeams();
        Check.says("An object is used for at most 512 calls; 27: a history of at most 6 states");
        for (int call = 1; call <= 498; call++) {
            x.set(1, call);
        }
        for (int left = 5; left >= 0; left--) {
            Check.due("undo()", x.undo(), left);
            Check.due("the prize then", x.count(1), 492 + left);
        }
        Check.due("undo() of none", x.undo(), NOT_POSSIBLE);
        Check.due("call 512", x.set(1, 500), 492);
    }

    private static TrailTeams smallGame() {
        TrailTeams x = new TrailTeams();
        Check.team(x, "a>b", 9);
        x.save(0);
        return x;
    }

    private static void changesThatMakeNoDifference() {
        Check.says("27: (also if nothing is different then)");
        for (int number = 0; number <= 5; number++) {
            TrailTeams x = smallGame();
            String before = Check.game(x);
            int answer = idleChange(x, number);
            Check.due("change " + number + " has no error", answer > -100000 ? 1 : 0, 1);
            Check.same("state behind change " + number, Check.game(x), before);
            Check.due("change " + number + " is recorded", x.count(12), 2);
            Check.due("undo() of it", x.undo(), 1);
            Check.same("state behind undo()", Check.game(x), before);
            Check.due("undo() of the team", x.undo(), 0);
            Check.due("teams", x.count(3), 0);
        }
        TrailTeams x = new TrailTeams();
        x.part();
        Check.due("part() without teams is recorded", x.count(12), 1);
        Check.due("undo() of it", x.undo(), 0);
    }

    private static int idleChange(TrailTeams x, int number) {
        switch (number) {
            case 0: return x.set(2, 2);
            case 1: return x.place(3, 6, 0, 5);
            case 2: return x.start(0, 9);
            case 3: return x.lose(0, -1);
            case 4: return x.restore(0);
            default:
                Check.write(x, "a>b");
                return x.route(0);
        }
    }

    private static void refusedChangesAreNotRecorded() {
        TrailTeams x = smallGame();
        Check.says("27: each method that is a change, and returns no error, records the state before it");
        x.set(0, 51);
        x.set(3, 1);
        x.place(8, 0, 0, 1);
        x.place(0, 0, 0, 0);
        x.close(8, true);
        x.close(0, false);
        x.team(0);
        x.team(201);
        x.route(0);
        x.route(1);
        x.leave(1);
        x.start(1, 0);
        x.start(0, 201);
        x.hint(1, 0, true);
        x.hint(0, 8, true);
        x.hint(0, 0, false);
        x.lose(1, 0);
        x.lose(0, 8);
        x.turn(1, 1);
        x.turn(0, 2);
        x.exchange(1, 0, 1);
        x.exchange(0, 0, 2);
        x.exchange(0, 1, 1);
        x.restore(2);
        x.restore(1);
        Check.due("changes that can be undone", x.count(12), 1);
        Check.due("undo() of the team", x.undo(), 0);
        Check.due("teams", x.count(3), 0);
        Check.due("undo() of none", x.undo(), NOT_POSSIBLE);
        Check.due("undo() of none again", x.undo(), NOT_POSSIBLE);
        Check.due("changes that can be undone", x.count(12), 0);
    }

    private static void otherCallsAreNotRecorded() {
        TrailTeams x = smallGame();
        Check.says("27: each method that is a change .. records (and no other one)");
        x.visit(0, 0, 0);
        x.teamOf(0, 0);
        x.placeOf(0, 0);
        x.where(0, 0);
        x.told(0, 0);
        x.count(0);
        x.freeStart(0);
        x.bestExchange(0, 0);
        x.worstPlace(0);
        x.ifTurned(0, 1);
        x.put('a');
        x.fault();
        x.wipe();
        x.save(1);
        Check.due("changes that can be undone", x.count(12), 1);
    }

    private static void undoIsNoChange() {
        TrailTeams x = new TrailTeams();
        x.set(1, 1);
        x.set(1, 2);
        x.set(1, 3);
        Check.says("27: Returns how many changes can be undone then");
        Check.due("undo()", x.undo(), 2);
        Check.due("undo() again goes on", x.undo(), 1);
        Check.due("the prize", x.count(1), 1);
        x.set(1, 4);
        Check.due("a new change", x.count(12), 2);
        Check.due("undo() of it", x.undo(), 1);
        Check.due("the prize ahead of it", x.count(1), 1);
        Check.due("undo() of the first one", x.undo(), 0);
        Check.due("the first prize", x.count(1), 200);
    }

    private static void undoLeavesThePad() {
        TrailTeams x = new TrailTeams();
        Check.says("27: everything except the pad, the slots and the history is as it was before it");
        Check.team(x, "a>b", 0);
        x.undo();
        Check.due("the pad that team emptied stays empty", x.count(11), 0);
        Check.team(x, "a>b", 0);
        Check.write(x, "c>");
        x.undo();
        Check.due("the pad that was put behind it stays", x.count(11), 2);
        Check.due("its fault", x.fault(), 2);
        x.wipe();
        x.set(1, 1);
        x.put('h');
        x.set(1, 2);
        x.wipe();
        x.undo();
        Check.due("the pad that was wiped stays empty", x.count(11), 0);
        Check.due("the prize is undone", x.count(1), 1);
    }

    private static void undoLeavesTheSlots() {
        TrailTeams x = new TrailTeams();
        Check.says("27: except .. the slots");
        Check.team(x, "a", 0);
        x.save(0);
        x.start(0, 5);
        x.save(1);
        x.undo();
        x.undo();
        Check.due("teams", x.count(3), 0);
        Check.due("restore(1)", x.restore(1), 1);
        Check.due("its start", x.teamOf(0, 0), 5);
        Check.due("restore(0)", x.restore(0), 1);
        Check.due("its start", x.teamOf(0, 0), 0);
        Check.due("changes that can be undone", x.count(12), 2);
        x.undo();
        Check.due("undo() of restore(0)", x.teamOf(0, 0), 5);
        x.undo();
        Check.due("undo() of restore(1)", x.count(3), 0);
        Check.due("restore(0) still", x.restore(0), 1);
    }

    private static TrailTeams sixTeams() {
        TrailTeams x = Scenes.full();
        x.hint(2, 7, true);
        x.lose(2, 0);
        return x;
    }

    private static void undoOfTeams() {
        Check.says("27: everything .. is as it was before it (six teams, one goes)");
        for (int team = 0; team < 6; team++) {
            TrailTeams x = sixTeams();
            Check.due("leave(" + team + ")", x.leave(team), 5);
            Check.due("undo()", x.undo(), 5);
            Check.due("teams", x.count(3), 6);
            Check.same("their visits", Check.visits(x), Check.visits(sixTeams()));
        }
    }

    private static void undoOfAllTeams() {
        TrailTeams x = Scenes.full();
        Check.says("27: A history of at most 6 states (six teams, and each of them goes)");
        for (int teams = 5; teams >= 0; teams--) {
            Check.due("leave(0)", x.leave(0), teams);
        }
        for (int left = 5; left >= 0; left--) {
            Check.due("undo() of leave", x.undo(), left);
            Check.due("the first start", x.teamOf(0, 0), left);
        }
        Check.due("teams", x.count(3), 6);
    }

    private static void saveInBothSlots() {
        TrailTeams x = new TrailTeams();
        Check.says("28: slot: 0 or 1");
        x.set(1, 1);
        Check.due("save(0)", x.save(0), 0);
        x.set(1, 2);
        Check.due("save(1)", x.save(1), 0);
        x.set(1, 3);
        Check.due("save(2)", x.save(2), BAD_VALUE);
        Check.due("save(-1)", x.save(-1), BAD_VALUE);
        x.restore(0);
        Check.due("the prize of slot 0", x.count(1), 1);
        x.restore(1);
        Check.due("the prize of slot 1", x.count(1), 2);
        Check.due("restore(2)", x.restore(2), BAD_VALUE);
        Check.due("restore(-1)", x.restore(-1), BAD_VALUE);
        Check.due("the prize stays", x.count(1), 2);
    }

    private static void saveIsNoChange() {
        TrailTeams x = smallGame();
        String before = Check.picture(x);
        Check.says("28: Saves everything (and changes nothing else)");
        x.save(1);
        Check.same("state", Check.picture(x), before);
        Check.due("changes that can be undone", x.count(12), 1);
        x.start(0, 3);
        x.undo();
        x.restore(1);
        Check.due("its start", x.teamOf(0, 0), 9);
    }

    private static void saveOfNoneAndSix() {
        TrailTeams x = new TrailTeams();
        Check.says("28: Returns how many teams there are");
        Check.due("save(0) without teams", x.save(0), 0);
        for (int team = 0; team < 6; team++) {
            Check.team(x, "a", team);
            Check.due("save(1)", x.save(1), team + 1);
        }
        Check.says("29: Returns how many teams there are then");
        Check.due("restore(0)", x.restore(0), 0);
        Check.due("no team", x.count(8), NONE);
        Check.due("restore(1)", x.restore(1), 6);
        for (int team = 0; team < 6; team++) {
            Check.due("start of " + team, x.teamOf(team, 0), team);
        }
    }

    private static void saveOverwrites() {
        TrailTeams x = new TrailTeams();
        Check.says("28: and overwrites what was saved there");
        x.set(1, 1);
        x.save(0);
        x.save(1);
        x.set(1, 2);
        x.save(0);
        x.set(1, 3);
        x.restore(0);
        Check.due("the prize of slot 0", x.count(1), 2);
        x.restore(1);
        Check.due("the prize of slot 1, that was not overwritten", x.count(1), 1);
    }

    private static void restoreOfAnEmptySlot() {
        Check.says("29: NOT_POSSIBLE if nothing was saved in it");
        for (int slot = 0; slot <= 1; slot++) {
            TrailTeams x = new TrailTeams();
            Check.due("restore(" + slot + ")", x.restore(slot), NOT_POSSIBLE);
            x.set(1, 1);
            x.save(1 - slot);
            x.save(2);
            x.save(-1);
            Check.due("restore(" + slot + ") with the other one in use", x.restore(slot), NOT_POSSIBLE);
            Check.due("changes that can be undone", x.count(12), 1);
            Check.due("the prize stays", x.count(1), 1);
            x.save(slot);
            Check.due("restore(" + slot + ") of what is saved", x.restore(slot), 0);
            x.undo();
            x.undo();
            Check.due("restore(" + slot + ") behind undo()", x.restore(slot), 0);
            Check.due("the prize", x.count(1), 1);
        }
    }

    private static void restoreKeepsTheSlot() {
        TrailTeams x = smallGame();
        Check.says("29: Restores what was saved last in a slot, which keeps it");
        for (int round = 0; round < 3; round++) {
            Check.due("restore(0)", x.restore(0), 1);
            Check.due("its start", x.teamOf(0, 0), 9);
            Check.due("its first place", x.visit(0, 0, 0), 0);
            Check.due("its hints", x.hint(0, 0, true), 9 + 3 + 2 + 5);
            x.start(0, 100 + round);
            x.turn(0, 1);
            x.lose(0, 1);
            x.set(1, 7);
            x.place(0, 1, 1, 1);
            x.close(1, true);
            Check.team(x, "c", 0);
        }
    }

    private static void restoreWithAFullHistory() {
        TrailTeams x = new TrailTeams();
        for (int prize = 1; prize <= 6; prize++) {
            x.set(1, prize);
            x.save(prize % 2);
        }
        Check.says("29: This is a change (with a full history)");
        Check.due("restore(1)", x.restore(1), 0);
        Check.due("changes that can be undone", x.count(12), 6);
        Check.due("the prize", x.count(1), 5);
        int[] prizes = {6, 5, 4, 3, 2, 1};
        for (int i = 0; i < prizes.length; i++) {
            Check.due("undo()", x.undo(), 5 - i);
            Check.due("the prize then", x.count(1), prizes[i]);
        }
        Check.due("undo() of none", x.undo(), NOT_POSSIBLE);
        Check.due("restore(0), with an empty history", x.restore(0), 0);
        Check.due("the prize", x.count(1), 6);
        Check.due("changes that can be undone", x.count(12), 1);
    }

    private static void restoreLeavesPadAndOtherSlot() {
        TrailTeams x = smallGame();
        Check.says("28: everything except the pad, the history and the slots");
        x.set(1, 1);
        x.save(1);
        Check.write(x, "c>d");
        x.restore(0);
        Check.due("the pad", x.count(11), 3);
        Check.due("its fault", x.fault(), NONE);
        Check.due("changes that can be undone", x.count(12), 3);
        x.restore(1);
        Check.due("the prize of the other slot", x.count(1), 1);
        Check.due("route(0) of the pad", x.route(0), 2);
        x.restore(0);
        Check.due("the pad that was emptied", x.count(11), 0);
    }

    /** Settings, places, and all of a team, also what does not show at once. */
    private static void restoreBringsEverythingBack() {
        TrailTeams x = Scenes.busy();
        x.save(1);
        String before = Check.game(x);
        x.set(0, 1);
        x.set(1, 2);
        x.set(2, 3);
        x.place(0, 3, 3, 3);
        x.close(4, false);
        x.hint(0, 4, false);
        x.hint(2, 0, false);
        x.lose(2, -1);
        x.lose(0, 0);
        x.turn(0, 3);
        x.exchange(2, 0, 2);
        x.start(1, 50);
        x.leave(1);
        Check.says("29: Restores what was saved last in a slot");
        Check.due("restore(1)", x.restore(1), 3);
        Check.same("state", Check.game(x), before);
        Check.due("a hint at a closed place", x.hint(0, 4, true), NOT_POSSIBLE);
        Check.due("a hint that is not in the route", x.hint(2, 0, true), NOT_POSSIBLE);
        x.close(4, false);
        x.place(3, 6, 0, 5);
        Check.write(x, "h>g");
        x.route(2);
        Check.due("a map that is lost out of the route", x.visit(2, 1, 4), 10);
    }

    private static void restoreOfWhatIsThere() {
        TrailTeams x = new TrailTeams();
        Check.says("29: Restores what was saved (nothing, with no change since)");
        Check.due("save(0) of a new object", x.save(0), 0);
        Check.due("restore(0)", x.restore(0), 0);
        Check.due("restore(0) again", x.restore(0), 0);
        Check.due("changes that can be undone", x.count(12), 2);
        Check.due("undo()", x.undo(), 1);
        Check.due("undo()", x.undo(), 0);
        Check.due("undo()", x.undo(), NOT_POSSIBLE);
    }
}
