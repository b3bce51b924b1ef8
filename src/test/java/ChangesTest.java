/** Promises 1 to 13: a new object, and what changes it. */
public final class ChangesTest {
    private static final int NO_SUCH = -100001;
    private static final int BAD_VALUE = -100002;
    private static final int BAD_TEXT = -100003;
    private static final int TOO_MANY = -100004;
    private static final int NOT_POSSIBLE = -100005;
    private static final int NONE = -100006;

    public static void main(String[] args) {
        aNewObject();
        set();
        place();
        close();
        team();
        teamErrors();
        route();
        leave();
        start();
        hint();
        lose();
        turn();
        exchange();
        part();
        partWithoutAFreeStart();
        Check.end("ChangesTest");
    }

    private static void aNewObject() {
        TrailTeams x = new TrailTeams();
        int[] counts = {10, 200, 2, 0, 8, 0, 0, 0, NONE, 0, 0, 0, 0};
        for (int what = 0; what < counts.length; what++) {
            Check.due("1: count(" + what + ")", x.count(what), counts[what]);
        }
        for (int place = 0; place < 8; place++) {
            int[] facts = {2 * place, 0, 5, 1, 0, 0, 0, 0};
            for (int what = 0; what < facts.length; what++) {
                Check.due("1: placeOf(" + place + ", " + what + ")", x.placeOf(place, what), facts[what]);
            }
        }
        Check.due("1: teamOf(0, 0)", x.teamOf(0, 0), NO_SUCH);
        Check.due("1: undo()", x.undo(), NOT_POSSIBLE);
        Check.due("1: restore(0)", x.restore(0), NOT_POSSIBLE);
        Check.due("1: restore(1)", x.restore(1), NOT_POSSIBLE);
        Check.due("1: place(3, 1, 1, 1)", x.place(3, 1, 1, 1), 5);
        Check.due("1: placeOf(3, 0) of another object", new TrailTeams().placeOf(3, 0), 6);
    }

    private static void set() {
        TrailTeams x = new TrailTeams();
        Check.due("2: set(0, 50)", x.set(0, 50), 10);
        Check.due("2: set(0, 0)", x.set(0, 0), 50);
        Check.due("2: set(1, 500)", x.set(1, 500), 200);
        Check.due("2: set(1, 0)", x.set(1, 0), 500);
        Check.due("2: set(2, 5)", x.set(2, 5), 2);
        Check.due("2: set(2, 1)", x.set(2, 1), 5);
        Check.due("2: count(0)", x.count(0), 0);
        Check.due("2: count(1)", x.count(1), 0);
        Check.due("2: count(2)", x.count(2), 1);
        Check.due("2: count(12)", x.count(12), 6);
        int[][] bad = {{-1, 0}, {3, 1}, {0, -1}, {0, 51}, {1, -1}, {1, 501}, {2, 0}, {2, 6},
            {Integer.MIN_VALUE, 1}, {Integer.MAX_VALUE, 1}, {0, Integer.MIN_VALUE}, {0, Integer.MAX_VALUE}};
        x = new TrailTeams();
        String before = Check.picture(x);
        for (int[] one : bad) {
            Check.due("2: set(" + one[0] + ", " + one[1] + ")", x.set(one[0], one[1]), BAD_VALUE);
        }
        Check.same("2: after errors", Check.picture(x), before);
        x.set(0, 10);
        Check.due("2: a change that makes no difference is recorded", x.count(12), 1);
    }

    private static void place() {
        TrailTeams x = new TrailTeams();
        Check.due("3: place(0, 20, 20, 15)", x.place(0, 20, 20, 15), 5);
        Check.due("3: placeOf(0, 0)", x.placeOf(0, 0), 20);
        Check.due("3: placeOf(0, 1)", x.placeOf(0, 1), 20);
        Check.due("3: placeOf(0, 2)", x.placeOf(0, 2), 15);
        Check.due("3: place(0, 3, 0, 1)", x.place(0, 3, 0, 1), 15);
        Check.due("3: place(7, 1, 2, 3)", x.place(7, 1, 2, 3), 5);
        Check.due("3: placeOf(7, 1)", x.placeOf(7, 1), 2);
        Check.due("3: count(12)", x.count(12), 3);
        Check.team(x, "a>h", 0);
        Check.due("3: walk to a", x.visit(0, 0, 4), 3);
        Check.due("3: walk from a to h", x.visit(0, 1, 4), 4);
        Check.due("3: end", x.teamOf(0, 1), 3 + 1 + 4 + 3);
        String before = Check.picture(x);
        Check.due("3: place(-1, 0, 0, 1)", x.place(-1, 0, 0, 1), NO_SUCH);
        Check.due("3: place(8, 0, 0, 1)", x.place(8, 0, 0, 1), NO_SUCH);
        Check.due("3: place(8, 21, 21, 16)", x.place(8, 21, 21, 16), NO_SUCH);
        Check.due("3: place(0, -1, 0, 1)", x.place(0, -1, 0, 1), BAD_VALUE);
        Check.due("3: place(0, 21, 0, 1)", x.place(0, 21, 0, 1), BAD_VALUE);
        Check.due("3: place(0, 0, -1, 1)", x.place(0, 0, -1, 1), BAD_VALUE);
        Check.due("3: place(0, 0, 21, 1)", x.place(0, 0, 21, 1), BAD_VALUE);
        Check.due("3: place(0, 0, 0, 0)", x.place(0, 0, 0, 0), BAD_VALUE);
        Check.due("3: place(0, 0, 0, 16)", x.place(0, 0, 0, 16), BAD_VALUE);
        Check.same("3: after errors", Check.picture(x), before);
    }

    private static void close() {
        TrailTeams x = new TrailTeams();
        Check.team(x, "a>b>c", 0);
        Check.due("4: close(1, true)", x.close(1, true), 7);
        Check.due("4: close(7, true)", x.close(7, true), 6);
        Check.due("4: placeOf(1, 3)", x.placeOf(1, 3), 0);
        Check.due("4: count(4)", x.count(4), 6);
        Check.due("4: trail", x.teamOf(0, 3), 2);
        Check.due("4: route", x.teamOf(0, 2), 3);
        Check.due("4: walk from a to c", x.visit(0, 1, 4), 4);
        String before = Check.picture(x);
        Check.due("4: close(1, true) again", x.close(1, true), NOT_POSSIBLE);
        Check.due("4: close(0, false)", x.close(0, false), NOT_POSSIBLE);
        Check.due("4: close(-1, false)", x.close(-1, false), NO_SUCH);
        Check.due("4: close(8, true)", x.close(8, true), NO_SUCH);
        Check.same("4: after errors", Check.picture(x), before);
        Check.due("4: close(1, false)", x.close(1, false), 7);
        Check.due("4: placeOf(1, 3) then", x.placeOf(1, 3), 1);
        Check.due("4: second place then", x.visit(0, 1, 0), 1);
        Check.due("4: count(12)", x.count(12), 4);
        for (int place = 0; place < 7; place++) {
            x.close(place, true);
        }
        Check.due("4: all closed", x.count(4), 0);
        Check.due("4: end without a trail", x.teamOf(0, 1), 0);
    }

    private static void team() {
        TrailTeams x = new TrailTeams();
        Check.due("5: team(0)", Check.team(x, "h", 0), 0);
        Check.due("5: pad", x.count(11), 0);
        Check.due("5: team(200)", Check.team(x, Scenes.FORTH, 200), 1);
        Check.due("5: start", x.teamOf(1, 0), 200);
        Check.due("5: places", x.teamOf(1, 2), 8);
        Check.due("5: count(12)", x.count(12), 2);
        x.hint(1, 0, true);
        x.lose(1, 0);
        x.leave(1);
        Check.due("5: team(3)", Check.team(x, "a>c", 3), 1);
        Check.due("5: no hints", x.visit(1, 0, 3), 8);
        Check.due("5: keeps its map", x.visit(1, 1, 4), 4);
        x.leave(1);
        x.leave(0);
        for (int team = 0; team < 6; team++) {
            Check.due("5: team(1)", Check.team(x, "" + (char) ('a' + team), 1), team);
        }
        for (int team = 0; team < 6; team++) {
            Check.due("5: place of team " + team, x.visit(team, 0, 0), team);
        }
    }

    private static void teamErrors() {
        TrailTeams x = new TrailTeams();
        for (int team = 0; team < 6; team++) {
            Check.team(x, "a", team);
        }
        Check.write(x, "a>b");
        String before = Check.picture(x);
        Check.due("5: a seventh team", x.team(0), TOO_MANY);
        Check.due("5: team(-1)", x.team(-1), BAD_VALUE);
        Check.due("5: team(201)", x.team(201), BAD_VALUE);
        Check.same("5: after errors", Check.picture(x), before);
        x.put(Check.number(">"));
        Check.due("5: a fault ahead of too many", x.team(0), BAD_TEXT);
        Check.due("5: a bad start ahead of a fault", x.team(201), BAD_VALUE);
        Check.due("5: the pad stays", x.count(11), 4);
        x.wipe();
        Check.due("5: an empty pad", x.team(200), BAD_TEXT);
        Check.due("5: teams", x.count(3), 6);
    }

    private static void route() {
        TrailTeams x = new TrailTeams();
        Check.team(x, "a>b", 4);
        x.hint(0, 2, true);
        x.lose(0, 2);
        x.close(3, true);
        Check.write(x, "c>d>e");
        Check.due("6: route(0)", x.route(0), 2);
        Check.due("6: pad", x.count(11), 0);
        Check.due("6: places", x.teamOf(0, 2), 3);
        Check.due("6: start stays", x.teamOf(0, 0), 4);
        Check.due("6: the hint stays", x.visit(0, 0, 3), 4 + 4 + 3);
        Check.due("6: the map stays lost", x.visit(0, 1, 4), 8);
        Check.due("6: count(12)", x.count(12), 5);
        Check.write(x, "d");
        Check.due("6: a route of a closed place", x.route(0), 0);
        Check.write(x, "d>");
        String before = Check.picture(x);
        Check.due("6: route(0) of a fault", x.route(0), BAD_TEXT);
        Check.due("6: route(1) of a fault", x.route(1), NO_SUCH);
        Check.due("6: route(-1)", x.route(-1), NO_SUCH);
        Check.same("6: after errors", Check.picture(x), before);
        x.wipe();
        Check.due("6: route(0) of an empty pad", x.route(0), BAD_TEXT);
    }

    private static void leave() {
        TrailTeams x = new TrailTeams();
        Check.team(x, "a", 1);
        Check.team(x, "b>d", 2);
        Check.team(x, "c>h>e", 3);
        x.hint(2, 2, true);
        x.lose(2, 2);
        String before = Check.picture(x);
        Check.due("7: leave(3)", x.leave(3), NO_SUCH);
        Check.due("7: leave(-1)", x.leave(-1), NO_SUCH);
        Check.same("7: after errors", Check.picture(x), before);
        Check.due("7: leave(0)", x.leave(0), 2);
        Check.due("7: count(3)", x.count(3), 2);
        Check.due("7: teamOf(0, 0)", x.teamOf(0, 0), 2);
        Check.due("7: visit(0, 1, 0)", x.visit(0, 1, 0), 3);
        Check.due("7: teamOf(1, 0)", x.teamOf(1, 0), 3);
        Check.due("7: visit(1, 0, 3)", x.visit(1, 0, 3), 3 + 4 + 3);
        Check.due("7: visit(1, 1, 4)", x.visit(1, 1, 4), 20);
        Check.due("7: teamOf(2, 0)", x.teamOf(2, 0), NO_SUCH);
        Check.due("7: leave(1)", x.leave(1), 1);
        Check.due("7: teamOf(0, 0) stays", x.teamOf(0, 0), 2);
        Check.due("7: leave(0) of the last one", x.leave(0), 0);
        Check.due("7: leave(0) of nobody", x.leave(0), NO_SUCH);
        Check.due("7: count(12)", x.count(12), 6);
    }

    private static void start() {
        TrailTeams x = new TrailTeams();
        Check.team(x, "b", 9);
        Check.due("8: start(0, 200)", x.start(0, 200), 9);
        Check.due("8: teamOf(0, 0)", x.teamOf(0, 0), 200);
        Check.due("8: visit(0, 0, 1)", x.visit(0, 0, 1), 202);
        Check.due("8: start(0, 0)", x.start(0, 0), 200);
        Check.due("8: start(0, 0) again", x.start(0, 0), 0);
        Check.due("8: count(12)", x.count(12), 4);
        String before = Check.picture(x);
        Check.due("8: start(1, 0)", x.start(1, 0), NO_SUCH);
        Check.due("8: start(-1, 201)", x.start(-1, 201), NO_SUCH);
        Check.due("8: start(0, -1)", x.start(0, -1), BAD_VALUE);
        Check.due("8: start(0, 201)", x.start(0, 201), BAD_VALUE);
        Check.same("8: after errors", Check.picture(x), before);
    }

    private static void hint() {
        TrailTeams x = new TrailTeams();
        Check.team(x, "a>c", 0);
        Check.due("9: hint(0, 0, true)", x.hint(0, 0, true), 3 + 4 + 5);
        Check.due("9: hint(0, 7, true), not in the route", x.hint(0, 7, true), 12);
        Check.due("9: hints in the trail", x.teamOf(0, 8), 1);
        x.place(2, 4, 0, 4);
        Check.due("9: hint(0, 2, true) of an even look", x.hint(0, 2, true), 3 + 4 + 2);
        Check.due("9: points", x.teamOf(0, 6), 2 * 200 - 2 * 10 - 9);
        Check.due("9: count(12)", x.count(12), 5);
        String before = Check.picture(x);
        Check.due("9: hint(0, 7, true) again", x.hint(0, 7, true), NOT_POSSIBLE);
        Check.due("9: hint(0, 6, false)", x.hint(0, 6, false), NOT_POSSIBLE);
        Check.due("9: hint(1, 0, true)", x.hint(1, 0, true), NO_SUCH);
        Check.due("9: hint(-1, 0, true)", x.hint(-1, 0, true), NO_SUCH);
        Check.due("9: hint(0, 8, true)", x.hint(0, 8, true), NO_SUCH);
        Check.due("9: hint(0, -1, false)", x.hint(0, -1, false), NO_SUCH);
        Check.same("9: after errors", Check.picture(x), before);
        Check.due("9: hint(0, 0, false)", x.hint(0, 0, false), 5 + 4 + 2);
        Check.due("9: hint(0, 7, false)", x.hint(0, 7, false), 11);
        Check.due("9: hint(0, 7, false) again", x.hint(0, 7, false), NOT_POSSIBLE);
        x.place(2, 4, 0, 1);
        Check.due("9: half of 1, rounded up", x.visit(0, 1, 3) - x.visit(0, 1, 2), 1);
    }

    private static void lose() {
        TrailTeams x = new TrailTeams();
        Check.team(x, "b>c>e", 0);
        int plain = 2 + 5 + 2 + 5 + 4 + 5;
        Check.due("10: lose(0, 1)", x.lose(0, 1), plain + 2 + 4);
        Check.due("10: the walk ahead of it", x.visit(0, 0, 4), 2);
        Check.due("10: lose(0, 2)", x.lose(0, 2), plain + 4);
        Check.due("10: lose(0, 4), the last place", x.lose(0, 4), plain);
        Check.due("10: lose(0, 7), not in the route", x.lose(0, 7), plain);
        Check.due("10: lose(0, 1) again", x.lose(0, 1), plain + 6);
        Check.due("10: count(12)", x.count(12), 6);
        x.set(2, 5);
        Check.due("10: five times as long", x.teamOf(0, 1), plain + 4 * 6);
        x.close(1, true);
        Check.due("10: its place is closed", x.teamOf(0, 1), 4 + 5 + 4 + 5);
        String before = Check.picture(x);
        Check.due("10: lose(0, 8)", x.lose(0, 8), NO_SUCH);
        Check.due("10: lose(0, -2)", x.lose(0, -2), NO_SUCH);
        Check.due("10: lose(1, 0)", x.lose(1, 0), NO_SUCH);
        Check.due("10: lose(-1, -1)", x.lose(-1, -1), NO_SUCH);
        Check.same("10: after errors", Check.picture(x), before);
        x.close(1, false);
        Check.due("10: lose(0, -1)", x.lose(0, -1), plain);
        Check.due("10: lose(0, -1) again", x.lose(0, -1), plain);
    }

    private static void turn() {
        TrailTeams x = new TrailTeams();
        Check.team(x, "a>b>c>d", 0);
        Check.due("11: turn(0, 1)", x.turn(0, 1), 1);
        sameRoute(x, 0, 1, 2, 3, 0);
        Check.due("11: turn(0, 3)", x.turn(0, 3), 0);
        sameRoute(x, 0, 0, 1, 2, 3);
        Check.due("11: turn(0, 2)", x.turn(0, 2), 2);
        sameRoute(x, 0, 2, 3, 0, 1);
        Check.due("11: count(12)", x.count(12), 4);
        x.close(3, true);
        Check.due("11: turn(0, 1) to a closed place", x.turn(0, 1), 3);
        x.close(3, false);
        sameRoute(x, 0, 3, 0, 1, 2);
        String before = Check.picture(x);
        Check.due("11: turn(0, 0)", x.turn(0, 0), BAD_VALUE);
        Check.due("11: turn(0, -1)", x.turn(0, -1), BAD_VALUE);
        Check.due("11: turn(0, 4)", x.turn(0, 4), BAD_VALUE);
        Check.due("11: turn(1, 1)", x.turn(1, 1), NO_SUCH);
        Check.due("11: turn(-1, 0)", x.turn(-1, 0), NO_SUCH);
        Check.same("11: after errors", Check.picture(x), before);
        Check.team(x, "e", 0);
        Check.due("11: turn(1, 1) of one place", x.turn(1, 1), BAD_VALUE);
        Check.team(x, Scenes.FORTH, 0);
        Check.due("11: turn(2, 8)", x.turn(2, 8), BAD_VALUE);
        Check.due("11: turn(2, 7)", x.turn(2, 7), 7);
        sameRoute(x, 2, 7, 0, 1, 2, 3, 4, 5, 6);
    }

    private static void sameRoute(TrailTeams x, int team, int... places) {
        for (int visit = 0; visit < places.length; visit++) {
            Check.due("visit(" + team + ", " + visit + ", 0)", x.visit(team, visit, 0), places[visit]);
        }
        Check.due("teamOf(" + team + ", 3)", x.teamOf(team, 3), places.length);
    }

    private static void exchange() {
        TrailTeams x = new TrailTeams();
        Check.team(x, "a>b>c>d", 0);
        Check.due("12: exchange(0, 0, 3)", x.exchange(0, 0, 3), 6 + 5 + 4 + 5 + 2 + 5 + 4 + 5);
        sameRoute(x, 0, 3, 1, 2, 0);
        Check.due("12: exchange(0, 3, 2)", x.exchange(0, 3, 2), 6 + 5 + 4 + 5 + 2 + 5 + 4 + 5);
        sameRoute(x, 0, 3, 1, 0, 2);
        Check.due("12: count(12)", x.count(12), 3);
        x.close(1, true);
        Check.due("12: exchange(0, 1, 0) with a closed place", x.exchange(0, 1, 0), 6 + 5 + 6 + 5 + 4 + 5);
        x.close(1, false);
        sameRoute(x, 0, 1, 3, 0, 2);
        String before = Check.picture(x);
        Check.due("12: exchange(0, 1, 1)", x.exchange(0, 1, 1), BAD_VALUE);
        Check.due("12: exchange(0, 4, 4)", x.exchange(0, 4, 4), NO_SUCH);
        Check.due("12: exchange(0, 0, 4)", x.exchange(0, 0, 4), NO_SUCH);
        Check.due("12: exchange(0, 4, 0)", x.exchange(0, 4, 0), NO_SUCH);
        Check.due("12: exchange(0, -1, 0)", x.exchange(0, -1, 0), NO_SUCH);
        Check.due("12: exchange(0, 0, -1)", x.exchange(0, 0, -1), NO_SUCH);
        Check.due("12: exchange(1, 0, 1)", x.exchange(1, 0, 1), NO_SUCH);
        Check.due("12: exchange(-1, 0, 0)", x.exchange(-1, 0, 0), NO_SUCH);
        Check.same("12: after errors", Check.picture(x), before);
    }

    private static void part() {
        TrailTeams x = new TrailTeams();
        Check.due("13: part() without teams", x.part(), 0);
        Check.due("13: it is recorded", x.count(12), 1);
        Check.team(x, "a", 50);
        Check.team(x, "a", 50);
        Check.team(x, "b", 50);
        Check.team(x, "a", 0);
        Check.due("13: pairs ahead of it", x.count(5), 1);
        Check.due("13: part()", x.part(), 0);
        Check.due("13: start of 0", x.teamOf(0, 0), 0);
        Check.due("13: start of 1", x.teamOf(1, 0), 6);
        Check.due("13: start of 2", x.teamOf(2, 0), 0);
        Check.due("13: start of 3", x.teamOf(3, 0), 12);
        Check.due("13: pairs", x.count(5), 0);
        Check.due("13: count(12)", x.count(12), 6);
        Check.due("13: undo()", x.undo(), 5);
        Check.due("13: start of 1 then", x.teamOf(1, 0), 50);
    }

    private static void partWithoutAFreeStart() {
        TrailTeams x = new TrailTeams();
        Check.gather(x, 8, 15);
        Check.team(x, Scenes.FORTH, 7);
        Check.team(x, Scenes.BACK, 9);
        Check.team(x, Scenes.FORTH, 11);
        Check.due("13: part() with a team that is never free", x.part(), 2);
        Check.due("13: start of the first one", x.teamOf(0, 0), 0);
        Check.due("13: start of the one that turns back", x.teamOf(1, 0), 121);
        Check.due("13: the last one keeps its start", x.teamOf(2, 0), 11);
        Check.due("13: it meets both", x.teamOf(2, 9), 3);
    }
}
