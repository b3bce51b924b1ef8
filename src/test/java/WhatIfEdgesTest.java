/** The boundary cases of promises 20 to 23. */
public final class WhatIfEdgesTest {
    private static final int NO_SUCH = -100001;
    private static final int BAD_VALUE = -100002;
    private static final int NONE = -100006;

    public static void main(String[] args) {
        withoutTeams();
        freeStartOfOne();
        freeStartBesideAnother();
        freeStartAtTheLatest();
        freeStartOfSix();
        freeStartWithoutATrail();
        bestExchangeOfShortRoutes();
        bestExchangeOfEight();
        bestExchangeOfSeveral();
        bestExchangeWithClosedPlaces();
        worstPlaceOfFewOpen();
        worstPlaceOfSeveral();
        worstPlaceThatHelpsNothing();
        worstPlaceOfSixTeams();
        ifTurnedAtItsEnds();
        ifTurnedIsAsTurned();
        withAllPlacesClosed();
        nothingChanges();
        Check.end("WhatIfEdgesTest");
    }

    private static void withoutTeams() {
        TrailTeams x = new TrailTeams();
        Check.says("20, 21, 23: NO_SUCH if there is no such team");
        Check.due("freeStart(0)", x.freeStart(0), NO_SUCH);
        Check.due("bestExchange(0, 0)", x.bestExchange(0, 0), NO_SUCH);
        Check.due("ifTurned(0, 0)", x.ifTurned(0, 0), NO_SUCH);
        Check.says("22: of several the lowest (without teams nobody queues)");
        Check.due("worstPlace(0)", x.worstPlace(0), 0);
        Check.due("worstPlace(1)", x.worstPlace(1), 0);
        Check.due("worstPlace(2)", x.worstPlace(2), BAD_VALUE);
        Check.due("worstPlace(-1)", x.worstPlace(-1), BAD_VALUE);
    }

    private static void freeStartOfOne() {
        TrailTeams x = new TrailTeams();
        Check.team(x, Scenes.FORTH, 200);
        Check.says("20: the least start of a team, from 0 on");
        Check.due("freeStart(0) of one team", x.freeStart(0), 0);
        Check.due("its start stays", x.teamOf(0, 0), 200);
        Check.due("freeStart(1)", x.freeStart(1), NO_SUCH);
        Check.due("freeStart(-1)", x.freeStart(-1), NO_SUCH);
    }

    private static void freeStartBesideAnother() {
        int[][] due = {{0, 6}, {1, 7}, {5, 11}, {6, 0}, {7, 0}, {200, 0}};
        Check.says("20: with which it meets nobody (the first and the last minute counted)");
        for (int[] one : due) {
            TrailTeams x = new TrailTeams();
            Check.team(x, "a", one[0]);
            Check.team(x, "a", one[0]);
            Check.team(x, "b", 0);
            Check.due("beside one at " + one[0] + ": freeStart(1)", x.freeStart(1), one[1]);
            Check.due("beside one at " + one[0] + ": freeStart(0)", x.freeStart(0), one[1]);
            Check.due("beside none: freeStart(2)", x.freeStart(2), 0);
            x.start(1, one[1]);
            Check.due("with it they meet no more", x.count(5), 0);
        }
    }

    /** The second team, that goes the other way, has to come to h behind the first one, which leaves it at 219 or 220. */
    private static void freeStartAtTheLatest() {
        Check.says("20: up to 200; NONE if there is none");
        for (int more = 0; more <= 1; more++) {
            TrailTeams x = new TrailTeams();
            x.set(2, 5);
            x.place(0, 0, 0, 15);
            for (int place = 1; place <= 7; place++) {
                x.place(place, 20, 0, place == 6 ? 14 + more : 15);
            }
            Check.team(x, Scenes.FORTH, 0);
            x.lose(0, 0);
            Check.team(x, Scenes.BACK, 0);
            Check.due("freeStart(1)", x.freeStart(1), more == 0 ? 200 : NONE);
            Check.due("its start stays", x.teamOf(1, 0), 0);
            x.start(0, 1);
            Check.due("freeStart(1) behind one a minute later", x.freeStart(1), NONE);
        }
    }

    private static void freeStartOfSix() {
        TrailTeams x = new TrailTeams();
        for (int team = 0; team < 6; team++) {
            Check.team(x, "a", 12 * team);
        }
        Check.says("20: with which it meets nobody (all others as they are)");
        Check.due("freeStart(5), between the others", x.freeStart(5), 6);
        Check.due("freeStart(0), as it starts now", x.freeStart(0), 0);
        x.place(0, 0, 0, 6);
        Check.due("freeStart(5), with looks a minute longer", x.freeStart(5), 55);
        Check.due("freeStart(6)", x.freeStart(6), NO_SUCH);
    }

    private static void freeStartWithoutATrail() {
        TrailTeams x = new TrailTeams();
        Check.team(x, "a", 0);
        Check.team(x, "a", 9);
        x.close(0, true);
        Check.says("20: with which it meets nobody (a team without a trail comes to no place)");
        Check.due("freeStart(0)", x.freeStart(0), 0);
        Check.due("freeStart(1)", x.freeStart(1), 0);
        Check.due("its start stays", x.teamOf(1, 0), 9);
    }

    private static void best(TrailTeams x, int team, int one, int other, int end) {
        Check.due("bestExchange(" + team + ", 0)", x.bestExchange(team, 0), one);
        Check.due("bestExchange(" + team + ", 1)", x.bestExchange(team, 1), other);
        Check.due("bestExchange(" + team + ", 2)", x.bestExchange(team, 2), end);
    }

    private static void bestExchangeOfShortRoutes() {
        TrailTeams x = new TrailTeams();
        Check.team(x, "h", 0);
        Check.says("21: NONE if its route has fewer than 2 places");
        best(x, 0, NONE, NONE, NONE);
        Check.due("bestExchange(0, 3)", x.bestExchange(0, 3), BAD_VALUE);
        Check.due("bestExchange(0, -1)", x.bestExchange(0, -1), BAD_VALUE);
        Check.team(x, "a>c", 7);
        Check.says("21: (also if that is later than now)");
        best(x, 1, 0, 1, 7 + 4 + 5 + 4 + 5);
        Check.due("now", x.teamOf(1, 1), 7 + 5 + 4 + 5);
        Check.due("bestExchange(2, 0)", x.bestExchange(2, 0), NO_SUCH);
        x.close(2, true);
        Check.says("21: its route has fewer than 2 places (with closed ones)");
        best(x, 1, 0, 1, 7 + 5);
        Check.write(x, "c");
        x.route(1);
        best(x, 1, NONE, NONE, NONE);
    }

    private static void bestExchangeOfEight() {
        TrailTeams x = new TrailTeams();
        Check.team(x, "a>b>c>d>e>f>h>g", 0);
        Check.says("21: 1 the second one (greater than the first one)");
        best(x, 0, 6, 7, 40 + 14);
        Check.write(x, "h>b>c>d>e>f>g>a");
        x.route(0);
        best(x, 0, 0, 7, 40 + 14);
        Check.write(x, "b>a>c>d>e>f>g>h");
        x.route(0);
        best(x, 0, 0, 1, 40 + 14);
        Check.due("the route stays", x.visit(0, 0, 0), 1);
    }

    private static void bestExchangeOfSeveral() {
        TrailTeams x = new TrailTeams();
        String[] routes = {"a>e>b>c", "b>d>c>a", "b>c>a>d", "a>c>e>b", "a>b>c>d"};
        int[][] due = {{1, 2, 12}, {0, 3, 10}, {0, 2, 10}, {1, 3, 12}, {2, 3, 8}};
        Check.says("21: of several the one with the lowest first number, of these the one with the lowest second one");
        Check.team(x, "a", 0);
        for (int i = 0; i < routes.length; i++) {
            Check.write(x, routes[i]);
            x.route(0);
            best(x, 0, due[i][0], due[i][1], 20 + due[i][2]);
        }
        Check.gather(x, 8, 1);
        Check.write(x, Scenes.FORTH);
        x.route(0);
        best(x, 0, 0, 1, 8);
    }

    private static void bestExchangeWithClosedPlaces() {
        TrailTeams x = new TrailTeams();
        Check.team(x, "a>b>c>d", 0);
        x.close(1, true);
        Check.says("21: the exchange of two places of the route (with a closed one its trail can stay as it is)");
        best(x, 0, 0, 1, 15 + 6);
        x.close(0, true);
        best(x, 0, 0, 1, 10 + 6);
        x.close(2, true);
        x.close(3, true);
        best(x, 0, 0, 1, 0);
        x.close(0, false);
        best(x, 0, 0, 1, 5);
        Check.says("21: 0 the first number, 1 the second one (in the route, not in the trail)");
        x.close(2, false);
        x.close(3, false);
        Check.write(x, "c>b>a>d");
        x.route(0);
        best(x, 0, 0, 2, 15 + 6);
    }

    private static void worst(TrailTeams x, int place, int minutes) {
        Check.due("worstPlace(0)", x.worstPlace(0), place);
        Check.due("worstPlace(1)", x.worstPlace(1), minutes);
    }

    private static void worstPlaceOfFewOpen() {
        TrailTeams x = new TrailTeams();
        for (int place = 0; place < 7; place++) {
            x.close(place, true);
        }
        Check.team(x, "h", 0);
        Check.team(x, "h", 0);
        Check.says("22: the open place with whose closing all teams would queue the least");
        Check.due("now", x.count(7), 5);
        worst(x, 7, 0);
        Check.due("it stays open", x.count(4), 1);
        x.close(7, true);
        Check.says("22: NONE if no place is open");
        worst(x, NONE, NONE);
        Check.due("worstPlace(2)", x.worstPlace(2), BAD_VALUE);
        Check.due("worstPlace(-1)", x.worstPlace(-1), BAD_VALUE);
        x.close(6, false);
        worst(x, 6, 0);
    }

    private static void worstPlaceOfSeveral() {
        TrailTeams x = new TrailTeams();
        Check.team(x, "a", 0);
        Check.team(x, "a", 0);
        Check.team(x, "h", 0);
        Check.team(x, "h", 0);
        Check.says("22: of several the lowest");
        worst(x, 0, 5);
        x.place(0, 0, 0, 4);
        Check.due("now", x.count(7), 9);
        worst(x, 7, 4);
        x.close(7, true);
        worst(x, 0, 0);
        x.close(0, true);
        worst(x, 1, 0);
    }

    /** With either of two places closed both teams would come to the other one at once. */
    private static void worstPlaceThatHelpsNothing() {
        TrailTeams x = new TrailTeams();
        Check.gather(x, 2, 5);
        for (int place = 2; place <= 7; place++) {
            x.close(place, true);
        }
        Check.team(x, "a>b", 0);
        Check.team(x, "b>a", 0);
        Check.says("22: with whose closing all teams would queue the least (also if that is more than now)");
        Check.due("now", x.count(7), 0);
        worst(x, 0, 5);
        x.place(1, 0, 0, 4);
        Check.due("now, with b shorter", x.count(7), 1);
        worst(x, 0, 4);
        x.place(1, 0, 0, 6);
        Check.due("now, with b longer", x.count(7), 1);
        worst(x, 1, 5);
    }

    private static void worstPlaceOfSixTeams() {
        TrailTeams x = new TrailTeams();
        Check.gather(x, 8, 15);
        for (int team = 0; team < 6; team++) {
            Check.team(x, "h", 0);
        }
        Check.says("22: 1 the minutes in which they would queue");
        Check.due("now", x.count(7), 225);
        worst(x, 7, 0);
        x.close(7, true);
        worst(x, 0, 0);
    }

    private static void ifTurnedAtItsEnds() {
        TrailTeams x = new TrailTeams();
        Check.team(x, Scenes.FORTH, 0);
        Check.team(x, "h", 0);
        Check.says("23: by: 0 to 7; BAD_VALUE if .. above 0 and not below the number of places of the route");
        Check.due("ifTurned(0, 0)", x.ifTurned(0, 0), 0);
        Check.due("ifTurned(0, 7), h first", x.ifTurned(0, 7), 1);
        Check.due("ifTurned(0, 6), g first", x.ifTurned(0, 6), 1);
        Check.due("ifTurned(0, 5), f first", x.ifTurned(0, 5), 0);
        Check.due("ifTurned(0, 8)", x.ifTurned(0, 8), BAD_VALUE);
        Check.due("ifTurned(0, -1)", x.ifTurned(0, -1), BAD_VALUE);
        Check.due("ifTurned(1, 0) of one place", x.ifTurned(1, 0), 0);
        Check.due("ifTurned(1, 1) of one place", x.ifTurned(1, 1), BAD_VALUE);
        Check.due("ifTurned(1, 7) of one place", x.ifTurned(1, 7), BAD_VALUE);
        Check.due("ifTurned(2, 0)", x.ifTurned(2, 0), NO_SUCH);
        Check.team(x, "c>a", 0);
        Check.due("ifTurned(2, 0) of two places", x.ifTurned(2, 0), 0);
        Check.due("ifTurned(2, 1) of two places", x.ifTurned(2, 1), 1);
        Check.due("ifTurned(2, 2) of two places", x.ifTurned(2, 2), BAD_VALUE);
        Check.due("the route stays", x.visit(2, 0, 0), 2);
    }

    private static void ifTurnedIsAsTurned() {
        Check.says("23: if the route of a team was turned");
        for (int team = 0; team < 6; team += 5) {
            for (int by = 1; by <= 7; by++) {
                TrailTeams x = Scenes.full();
                int pairs = x.ifTurned(team, by);
                x.turn(team, by);
                Check.due("ifTurned(" + team + ", " + by + ")", pairs, x.count(5));
                Check.due("ifTurned(" + team + ", 0) then", x.ifTurned(team, 0), pairs);
            }
        }
    }

    private static void withAllPlacesClosed() {
        TrailTeams x = Scenes.closed();
        Check.says("20 to 23: with 6 teams, and all places closed");
        for (int team = 0; team < 6; team++) {
            Check.due("freeStart(" + team + ")", x.freeStart(team), 0);
            Check.due("ifTurned(" + team + ", 0)", x.ifTurned(team, 0), 0);
            Check.due("ifTurned(" + team + ", " + team + ")", x.ifTurned(team, team), 0);
            Check.due("ifTurned(" + team + ", more)", x.ifTurned(team, team + 1), BAD_VALUE);
        }
        best(x, 0, NONE, NONE, NONE);
        best(x, 1, 0, 1, 10);
        best(x, 5, 0, 1, 50);
        worst(x, NONE, NONE);
    }

    private static void nothingChanges() {
        Check.says("what if; nothing changes");
        for (Twins twins : Twins.ofAllScenes()) {
            int teams = twins.teams();
            twins.unchanged("what if", x -> {
                x.worstPlace(0);
                x.worstPlace(1);
                for (int team = 0; team < teams; team++) {
                    x.freeStart(team);
                    for (int what = 0; what <= 2; what++) {
                        x.bestExchange(team, what);
                    }
                    for (int by = 0; by <= 7; by++) {
                        x.ifTurned(team, by);
                    }
                }
            });
        }
    }
}
