/** The boundary cases of promises 1 to 13, and of the terms on settings, places, walks, teams and routes. */
public final class ChangesEdgesTest {
    private static final int NO_SUCH = -100001;
    private static final int BAD_VALUE = -100002;
    private static final int BAD_TEXT = -100003;
    private static final int TOO_MANY = -100004;
    private static final int NOT_POSSIBLE = -100005;
    private static final int NONE = -100006;

    public static void main(String[] args) {
        firstValues();
        feeAtItsEnds();
        prizeAtItsEnds();
        lostAtItsEnds();
        placesAtTheirEnds();
        shortestAndLongestWalks();
        theLongestTrail();
        closeAll();
        closedEndsOfARoute();
        teamStarts();
        sixTeams();
        teamAfterARefusal();
        aNewTeamInAnOldPlace();
        routesOfOneAndOfEight();
        routeWithoutOpenPlaces();
        leaveOfSix();
        startAtItsEnds();
        hintAtItsEnds();
        hintsWithoutAVisit();
        loseAtItsEnds();
        loseOutOfTheTrail();
        turnAtItsEnds();
        turnOfClosedPlaces();
        exchangeAtItsEnds();
        exchangeOfClosedPlaces();
        partOfNoneAndOne();
        partOfSix();
        partAtTheLatest();
        partWithAKeptStart();
        partWithoutTrails();
        Check.end("ChangesEdgesTest");
    }

    private static void firstValues() {
        TrailTeams x = new TrailTeams();
        Check.says("Settings: (In parentheses: range; first value.) FEE (10), PRIZE (200), LOST (2)");
        Check.due("set(FEE, 10)", x.set(TrailTeams.FEE, 10), 10);
        Check.due("set(PRIZE, 200)", x.set(TrailTeams.PRIZE, 200), 200);
        Check.due("set(LOST, 2)", x.set(TrailTeams.LOST, 2), 2);
        Check.says("There are 8 places, 0 to 7 (at first x is twice the number of the place, and y 0), .. (open at first)");
        Check.due("x of the first one", x.placeOf(0, 0), 0);
        Check.due("x of the last one", x.placeOf(7, 0), 14);
        Check.due("y of the last one", x.placeOf(7, 1), 0);
        Check.due("looking at the last one", x.placeOf(7, 2), 5);
        Check.due("the last one is open", x.placeOf(7, 3), 1);
        Check.due("an eighth one", x.placeOf(8, 0), NO_SUCH);
        Check.says("1: Creates places, and no teams");
        Check.due("count(3)", x.count(3), 0);
        Check.due("teamOf(0, 0)", x.teamOf(0, 0), NO_SUCH);
        Check.due("leave(0)", x.leave(0), NO_SUCH);
    }

    private static void feeAtItsEnds() {
        TrailTeams x = new TrailTeams();
        Check.team(x, "a", 0);
        x.hint(0, 0, true);
        Check.says("FEE (0 to 50)");
        Check.due("set(0, 0)", x.set(0, 0), 10);
        Check.due("points without a fee", x.teamOf(0, 6), 200 - 3);
        Check.due("set(0, 50)", x.set(0, 50), 0);
        Check.due("points with the greatest fee", x.teamOf(0, 6), 200 - 50 - 3);
        Check.due("set(0, 51)", x.set(0, 51), BAD_VALUE);
        Check.due("set(0, -1)", x.set(0, -1), BAD_VALUE);
        Check.due("the fee stays", x.count(0), 50);
    }

    private static void prizeAtItsEnds() {
        TrailTeams x = new TrailTeams();
        Check.team(x, Scenes.FORTH, 0);
        Check.says("PRIZE (0 to 500)");
        Check.due("set(1, 0)", x.set(1, 0), 200);
        Check.due("points without a prize", x.teamOf(0, 6), -54);
        Check.due("set(1, 500)", x.set(1, 500), 0);
        Check.due("points with the greatest prize", x.teamOf(0, 6), 4000 - 54);
        Check.due("points of all", x.count(9), 4000 - 54);
        Check.due("set(1, 501)", x.set(1, 501), BAD_VALUE);
        Check.due("set(1, -1)", x.set(1, -1), BAD_VALUE);
        Check.due("the prize stays", x.count(1), 500);
    }

    private static void lostAtItsEnds() {
        TrailTeams x = new TrailTeams();
        Check.team(x, "a>h", 0);
        x.lose(0, 0);
        Check.says("LOST (1 to 5)");
        Check.due("set(2, 1)", x.set(2, 1), 2);
        Check.due("a walk as long as with a map", x.visit(0, 1, 4), 14);
        Check.due("set(2, 5)", x.set(2, 5), 1);
        Check.due("a walk five times as long", x.visit(0, 1, 4), 70);
        Check.due("set(2, 6)", x.set(2, 6), BAD_VALUE);
        Check.due("set(2, 0)", x.set(2, 0), BAD_VALUE);
        Check.due("it stays", x.visit(0, 1, 4), 70);
    }

    private static void placesAtTheirEnds() {
        Check.says("3: place (0 to 7), x: 0 to 20, y: 0 to 20, look: 1 to 15");
        for (int place = 0; place <= 7; place += 7) {
            TrailTeams x = new TrailTeams();
            Check.team(x, "" + (char) ('a' + place), 0);
            Check.due("place(" + place + ", 0, 0, 1)", x.place(place, 0, 0, 1), 5);
            Check.due("end", x.teamOf(0, 1), 1);
            Check.due("place(" + place + ", 20, 0, 15)", x.place(place, 20, 0, 15), 1);
            Check.due("end", x.teamOf(0, 1), 35);
            Check.due("place(" + place + ", 0, 20, 1)", x.place(place, 0, 20, 1), 15);
            Check.due("end", x.teamOf(0, 1), 21);
            Check.due("place(" + place + ", 20, 20, 15)", x.place(place, 20, 20, 15), 1);
            Check.due("end", x.teamOf(0, 1), 55);
            Check.due("place(" + place + ", 21, 20, 15)", x.place(place, 21, 20, 15), BAD_VALUE);
            Check.due("place(" + place + ", 20, 21, 15)", x.place(place, 20, 21, 15), BAD_VALUE);
            Check.due("place(" + place + ", 20, 20, 16)", x.place(place, 20, 20, 16), BAD_VALUE);
            Check.due("place(" + place + ", 20, 20, 0)", x.place(place, 20, 20, 0), BAD_VALUE);
            Check.due("end after these", x.teamOf(0, 1), 55);
            Check.due("the place ahead or behind stays", x.placeOf(place == 0 ? 1 : 6, 1), 0);
        }
    }

    private static void shortestAndLongestWalks() {
        TrailTeams x = new TrailTeams();
        x.place(0, 0, 0, 5);
        x.place(1, 0, 0, 5);
        x.place(2, 20, 0, 5);
        x.place(3, 0, 20, 5);
        x.place(4, 20, 20, 5);
        Check.team(x, "a>b>c>d>e", 0);
        Check.says("A walk between two points takes as many minutes as they are apart in x and in y, together");
        int[] walks = {0, 0, 20, 40, 20};
        for (int visit = 0; visit < walks.length; visit++) {
            Check.due("walk to place " + visit, x.visit(0, visit, 4), walks[visit]);
        }
        Check.due("minutes in which it walks", x.teamOf(0, 5), 80);
        Check.due("it comes to a as it starts", x.visit(0, 0, 1), 0);
        Check.due("it comes to b as it has looked at a", x.visit(0, 1, 1), 5);
        x.close(3, true);
        Check.due("turn(0, 4), to the farthest place", x.turn(0, 4), 4);
        Check.due("the walk to it", x.visit(0, 0, 4), 40);
        Check.due("the walk back", x.visit(0, 1, 4), 40);
    }

    /** Each walk behind the first one is 40 minutes long, and the map is lost at once. */
    private static void theLongestTrail() {
        TrailTeams x = new TrailTeams();
        for (int place = 0; place <= 7; place++) {
            int corner = place % 2 == 0 ? 20 : 0;
            x.place(place, corner, corner, 15);
        }
        Check.team(x, Scenes.FORTH, 200);
        x.set(2, 5);
        Check.says("The longest trail: 200 minutes a walk, the latest start");
        Check.due("lose(0, 0)", x.lose(0, 0), 200 + 40 + 15 + 7 * (200 + 15));
        Check.due("the walk to the last place", x.visit(0, 7, 4), 200);
        Check.due("minutes in which it walks", x.teamOf(0, 5), 1440);
        Check.due("the last place at the minute ahead of the end", x.where(0, 1759), 7);
        Check.due("no place at the end", x.where(0, 1760), NONE);
        x.set(1, 0);
        Check.due("points", x.teamOf(0, 6), -1760);
    }

    private static void closeAll() {
        TrailTeams x = new TrailTeams();
        Check.says("4: Returns how many places are open then");
        for (int place = 0; place <= 7; place++) {
            Check.due("close(" + place + ", true)", x.close(place, true), 7 - place);
            Check.due("close(" + place + ", true) again", x.close(place, true), NOT_POSSIBLE);
            Check.due("open places", x.count(4), 7 - place);
            Check.due("it is closed", x.placeOf(place, 3), 0);
        }
        for (int place = 7; place >= 0; place--) {
            Check.due("close(" + place + ", false)", x.close(place, false), 8 - place);
            Check.due("close(" + place + ", false) again", x.close(place, false), NOT_POSSIBLE);
            Check.due("it is open", x.placeOf(place, 3), 1);
        }
        Check.due("close(7, true)", x.close(7, true), 7);
        Check.due("close(8, true)", x.close(8, true), NO_SUCH);
        Check.due("close(-1, true)", x.close(-1, true), NO_SUCH);
        Check.due("open places after these", x.count(4), 7);
    }

    private static void closedEndsOfARoute() {
        TrailTeams x = new TrailTeams();
        Check.team(x, Scenes.FORTH, 0);
        Check.says("The trail of a team is its route without closed places");
        x.close(0, true);
        Check.due("the first one closed: first visit", x.visit(0, 0, 0), 1);
        Check.due("its walk", x.visit(0, 0, 4), 2);
        x.close(7, true);
        Check.due("the last one closed: last visit", x.visit(0, 5, 0), 6);
        Check.due("none behind it", x.visit(0, 6, 0), NONE);
        Check.due("end", x.teamOf(0, 1), 12 + 6 * 5);
        for (int place = 2; place <= 6; place++) {
            x.close(place, true);
        }
        Check.due("one place left", x.teamOf(0, 3), 1);
        Check.due("it", x.visit(0, 0, 0), 1);
        x.close(1, true);
        Check.due("no place left", x.teamOf(0, 3), 0);
        Check.due("places of its route", x.teamOf(0, 2), 8);
        Check.due("it ends as it starts", x.teamOf(0, 1), 0);
        x.close(7, false);
        Check.due("the last one open again", x.visit(0, 0, 0), 7);
    }

    private static void teamStarts() {
        TrailTeams x = new TrailTeams();
        Check.says("5: start: 0 to 200");
        Check.due("team(0)", Check.team(x, "a", 0), 0);
        Check.due("its start", x.teamOf(0, 0), 0);
        Check.due("team(200)", Check.team(x, "a", 200), 1);
        Check.due("its start", x.teamOf(1, 0), 200);
        Check.write(x, "b");
        Check.due("team(201)", x.team(201), BAD_VALUE);
        Check.due("team(-1)", x.team(-1), BAD_VALUE);
        Check.due("the pad stays", x.count(11), 1);
        Check.due("teams", x.count(3), 2);
        Check.says("5: with the route of the pad, which is emptied");
        Check.due("team(0)", x.team(0), 2);
        Check.due("the pad", x.count(11), 0);
        Check.due("team(0) from the empty pad", x.team(0), BAD_TEXT);
    }

    private static void sixTeams() {
        TrailTeams x = new TrailTeams();
        Check.says("There are up to 6 teams, numbered in the order in which they came");
        for (int team = 0; team < 6; team++) {
            Check.due("a team", Check.team(x, Scenes.FORTH.substring(2 * team), 20 * team), team);
            Check.due("teams", x.count(3), team + 1);
        }
        Check.due("a seventh one", Check.team(x, "h", 0), TOO_MANY);
        for (int team = 0; team < 6; team++) {
            Check.due("start of " + team, x.teamOf(team, 0), 20 * team);
            Check.due("first place of " + team, x.visit(team, 0, 0), team);
            Check.due("places of " + team, x.teamOf(team, 2), 8 - team);
        }
        Check.due("the team that did not come", x.teamOf(6, 0), NO_SUCH);
        Check.due("all come to h", x.placeOf(7, 4), 63);
    }

    private static void teamAfterARefusal() {
        TrailTeams x = new TrailTeams();
        for (int team = 0; team < 6; team++) {
            Check.team(x, "a", team);
        }
        Check.says("5: TOO_MANY if there are 6 teams");
        Check.due("a seventh team", Check.team(x, "h>g", 9), TOO_MANY);
        Check.due("the pad stays", x.count(11), 3);
        Check.due("one goes", x.leave(2), 5);
        Check.due("then it comes", x.team(9), 5);
        Check.due("with the route of the pad", x.visit(5, 0, 0), 7);
        Check.due("the pad is empty", x.count(11), 0);
        Check.due("an eighth team", Check.team(x, "h", 9), TOO_MANY);
    }

    private static void aNewTeamInAnOldPlace() {
        TrailTeams x = new TrailTeams();
        Check.team(x, "a", 0);
        Check.team(x, Scenes.FORTH, 50);
        for (int place = 0; place <= 7; place++) {
            x.hint(1, place, true);
        }
        x.lose(1, 0);
        x.leave(0);
        x.leave(0);
        Check.says("5: it has no hints, and keeps its map");
        Check.team(x, "a", 0);
        Check.team(x, Scenes.FORTH, 0);
        Check.due("hints at places of its trail", x.teamOf(1, 8), 0);
        Check.due("minutes in which it walks", x.teamOf(1, 5), 14);
        Check.due("hint(1, 0, false)", x.hint(1, 0, false), NOT_POSSIBLE);
        Check.due("hint(1, 7, false)", x.hint(1, 7, false), NOT_POSSIBLE);
        Check.due("hints of the other one", x.hint(0, 0, false), NOT_POSSIBLE);
    }

    private static void routesOfOneAndOfEight() {
        TrailTeams x = new TrailTeams();
        Check.says("6: Returns how many places its trail has");
        Check.team(x, "d", 0);
        Check.write(x, Scenes.BACK);
        Check.due("route(0) of eight", x.route(0), 8);
        Check.due("the eighth one", x.visit(0, 7, 0), 0);
        Check.due("a ninth one", x.visit(0, 8, 0), NONE);
        Check.due("places of its route", x.teamOf(0, 2), 8);
        Check.write(x, "h");
        Check.due("route(0) of one", x.route(0), 1);
        Check.due("the one", x.visit(0, 0, 0), 7);
        Check.due("a second one", x.visit(0, 1, 0), NONE);
        Check.due("places of its route", x.teamOf(0, 2), 1);
        Check.due("route(0) from the empty pad", x.route(0), BAD_TEXT);
        Check.due("its route stays", x.visit(0, 0, 0), 7);
        Check.due("route(1)", x.route(1), NO_SUCH);
        for (int team = 1; team < 6; team++) {
            Check.team(x, "a", 0);
        }
        Check.write(x, "b>c");
        Check.due("route(5) of the last of six", x.route(5), 2);
        Check.due("its second place", x.visit(5, 1, 0), 2);
        Check.due("the place of the one ahead", x.visit(4, 0, 0), 0);
    }

    private static void routeWithoutOpenPlaces() {
        TrailTeams x = new TrailTeams();
        Check.team(x, "a", 7);
        for (int place = 0; place <= 7; place++) {
            x.close(place, true);
        }
        Check.says("6: Returns how many places its trail has");
        Check.write(x, Scenes.FORTH);
        Check.due("route(0) with all places closed", x.route(0), 0);
        Check.due("places of its route", x.teamOf(0, 2), 8);
        Check.due("the pad", x.count(11), 0);
        Check.due("its end", x.teamOf(0, 1), 7);
        Check.says("5: A team comes");
        Check.due("team(200) with all places closed", Check.team(x, "b", 200), 1);
        Check.due("its end", x.teamOf(1, 1), 200);
        x.close(7, false);
        Check.write(x, Scenes.FORTH);
        Check.due("route(1) with one place open", x.route(1), 1);
    }

    private static TrailTeams sixAtTheirPlaces() {
        TrailTeams x = new TrailTeams();
        for (int team = 0; team < 6; team++) {
            Check.team(x, "" + (char) ('a' + team), team);
        }
        x.hint(5, 5, true);
        x.lose(5, 5);
        return x;
    }

    private static void leaveOfSix() {
        int[] goers = {0, 3, 5};
        int[][] left = {{1, 2, 3, 4, 5}, {0, 1, 2, 4, 5}, {0, 1, 2, 3, 4}};
        for (int i = 0; i < goers.length; i++) {
            TrailTeams x = sixAtTheirPlaces();
            Check.says("when one goes, those behind it move up");
            Check.due("leave(" + goers[i] + ")", x.leave(goers[i]), 5);
            for (int team = 0; team < 5; team++) {
                Check.due("place of " + team, x.visit(team, 0, 0), left[i][team]);
                Check.due("start of " + team, x.teamOf(team, 0), left[i][team]);
            }
            Check.due("hints of the last one", x.teamOf(4, 8), goers[i] == 5 ? 0 : 1);
            Check.due("a sixth one", x.teamOf(5, 0), NO_SUCH);
            Check.due("who comes to the place of the one that went", x.placeOf(goers[i], 4), 0);
            Check.due("a new one is the last one", Check.team(x, "h", 9), 5);
        }
        TrailTeams x = sixAtTheirPlaces();
        Check.says("7: Returns how many teams there are then");
        for (int teams = 5; teams >= 0; teams--) {
            Check.due("leave(0)", x.leave(0), teams);
        }
        Check.due("leave(0) without teams", x.leave(0), NO_SUCH);
        Check.due("the last end", x.count(6), 0);
        Check.due("the winner", x.count(8), NONE);
        Check.due("the first one that comes then", Check.team(x, "a", 0), 0);
    }

    private static void startAtItsEnds() {
        TrailTeams x = sixAtTheirPlaces();
        Check.says("8: minute: 0 to 200; returns the previous one");
        Check.due("start(5, 200)", x.start(5, 200), 5);
        Check.due("its end", x.teamOf(5, 1), 200 + 10 + 3);
        Check.due("start(5, 0)", x.start(5, 0), 200);
        Check.due("its end", x.teamOf(5, 1), 10 + 3);
        Check.due("start(5, 201)", x.start(5, 201), BAD_VALUE);
        Check.due("start(5, -1)", x.start(5, -1), BAD_VALUE);
        Check.due("start(6, 0)", x.start(6, 0), NO_SUCH);
        Check.due("its start stays", x.teamOf(5, 0), 0);
        Check.due("start(5, 0), as it is", x.start(5, 0), 0);
        Check.due("start(0, 200)", x.start(0, 200), 0);
        Check.due("the start of the one behind", x.teamOf(1, 0), 1);
    }

    private static void hintAtItsEnds() {
        int[] looks = {1, 2, 3, 4, 13, 14, 15};
        int[] halves = {1, 1, 2, 2, 7, 7, 8};
        TrailTeams x = new TrailTeams();
        Check.gather(x, 8, 1);
        Check.team(x, "h", 0);
        Check.says("with a hint half as long, rounded up");
        for (int i = 0; i < looks.length; i++) {
            x.place(7, 0, 0, looks[i]);
            Check.due("hint(0, 7, true), looking " + looks[i], x.hint(0, 7, true), halves[i]);
            Check.due("hint(0, 7, false), looking " + looks[i], x.hint(0, 7, false), looks[i]);
        }
        Check.says("9: Lets a team take a hint at a place, or not");
        Check.write(x, Scenes.FORTH);
        x.route(0);
        Check.gather(x, 8, 10);
        for (int place = 0; place <= 7; place++) {
            Check.due("hint(0, " + place + ", true)", x.hint(0, place, true), 80 - 5 * (place + 1));
            Check.due("hint(0, " + place + ", true) again", x.hint(0, place, true), NOT_POSSIBLE);
        }
        Check.due("hints at all places", x.teamOf(0, 8), 8);
        Check.due("points", x.teamOf(0, 6), 1600 - 80 - 40);
        for (int place = 0; place <= 7; place++) {
            Check.due("hint(0, " + place + ", false)", x.hint(0, place, false), 40 + 5 * (place + 1));
            Check.due("hint(0, " + place + ", false) again", x.hint(0, place, false), NOT_POSSIBLE);
        }
        Check.due("hint(0, 8, true)", x.hint(0, 8, true), NO_SUCH);
        Check.due("hint(0, -1, true)", x.hint(0, -1, true), NO_SUCH);
        Check.due("hints at no place", x.teamOf(0, 8), 0);
    }

    private static void hintsWithoutAVisit() {
        TrailTeams x = new TrailTeams();
        Check.team(x, "a>b", 3);
        x.close(1, true);
        Check.says("9: (also at one that is not in its route)");
        Check.due("hint(0, 2, true), not in the route", x.hint(0, 2, true), 8);
        Check.due("hint(0, 1, true), closed", x.hint(0, 1, true), 8);
        Check.due("hints at places of its trail", x.teamOf(0, 8), 0);
        Check.due("no fee", x.teamOf(0, 6), 200 - 8);
        Check.due("hint(0, 1, true) again", x.hint(0, 1, true), NOT_POSSIBLE);
        x.close(1, false);
        Check.due("the place opens: end", x.teamOf(0, 1), 3 + 5 + 2 + 3);
        Check.due("the place opens: points", x.teamOf(0, 6), 400 - 10 - 13);
        Check.write(x, "c");
        x.route(0);
        Check.due("the other one comes in: end", x.teamOf(0, 1), 3 + 4 + 3);
        x.close(2, true);
        Check.says("a team without a trail ends as it starts");
        Check.due("hint(0, 7, true)", x.hint(0, 7, true), 3);
        Check.due("lose(0, 2)", x.lose(0, 2), 3);
    }

    private static void loseAtItsEnds() {
        TrailTeams x = new TrailTeams();
        Check.team(x, Scenes.FORTH, 0);
        Check.says("10: From the place on behind which its map is lost each walk takes LOST times as long");
        Check.due("lose(0, 0), behind the first place", x.lose(0, 0), 40 + 28);
        Check.due("lose(0, 6), behind the last but one", x.lose(0, 6), 40 + 12 + 4);
        Check.due("the walk to it", x.visit(0, 6, 4), 2);
        Check.due("the walk from it", x.visit(0, 7, 4), 4);
        Check.due("lose(0, 7), behind the last place", x.lose(0, 7), 40 + 14);
        Check.due("lose(0, 8)", x.lose(0, 8), NO_SUCH);
        Check.due("lose(0, -2)", x.lose(0, -2), NO_SUCH);
        x.turn(0, 7);
        Check.due("its map stays lost behind 7", x.teamOf(0, 5), 14 + 2 * (14 + 12));
        Check.says("10: place: a place, or -1: it keeps its map");
        Check.due("lose(0, -1)", x.lose(0, -1), 40 + 14 + 14 + 12);
        Check.due("lose(0, -1) again", x.lose(0, -1), 40 + 14 + 14 + 12);
        x.place(7, 14, 0, 1);
        Check.due("lose(0, 7) again", x.lose(0, 7), 36 + 14 + 2 * (14 + 12));
    }

    private static void loseOutOfTheTrail() {
        TrailTeams x = new TrailTeams();
        Check.team(x, "b>c>d", 0);
        Check.says("(If this place is not in its trail, the map is not lost.)");
        Check.due("lose(0, 0), not in its route", x.lose(0, 0), 15 + 6);
        Check.due("lose(0, 1)", x.lose(0, 1), 15 + 2 + 8);
        x.close(1, true);
        Check.due("its place is closed", x.teamOf(0, 1), 10 + 6);
        x.close(1, false);
        Check.due("its place is open again", x.teamOf(0, 1), 15 + 2 + 8);
        Check.write(x, "c>d");
        x.route(0);
        Check.due("its place is in the route no more", x.teamOf(0, 1), 10 + 6);
        Check.write(x, "b>d");
        x.route(0);
        Check.due("its place is in the route again", x.teamOf(0, 1), 10 + 2 + 8);
        Check.due("lose(0, 2), not in its route", x.lose(0, 2), 10 + 6);
        x.close(2, true);
        Check.due("lose(0, 0), not in its route", x.lose(0, 0), 10 + 6);
        Check.due("lose(0, 2), closed and not in its route", x.lose(0, 2), 10 + 6);
        Check.write(x, "a>c>d");
        x.route(0);
        Check.due("it comes into the route, closed", x.teamOf(0, 1), 10 + 6);
        Check.due("lose(0, 0), in its route now", x.lose(0, 0), 10 + 12);
        Check.due("lose(0, 2), closed", x.lose(0, 2), 10 + 6);
        x.close(2, false);
        Check.due("it opens", x.teamOf(0, 1), 15 + 4 + 4);
    }

    private static void sameTrail(TrailTeams x, int team, String places) {
        for (int visit = 0; visit < places.length(); visit++) {
            Check.due("place " + visit, x.visit(team, visit, 0), places.charAt(visit) - 'a');
        }
        Check.due("places", x.teamOf(team, 3), places.length());
    }

    private static void turnAtItsEnds() {
        TrailTeams x = new TrailTeams();
        Check.team(x, Scenes.FORTH, 0);
        Check.says("11: its first places come to the end, in their order; by: 1 to 7");
        Check.due("turn(0, 1)", x.turn(0, 1), 1);
        sameTrail(x, 0, "bcdefgha");
        Check.due("turn(0, 7)", x.turn(0, 7), 0);
        sameTrail(x, 0, "abcdefgh");
        Check.due("turn(0, 7)", x.turn(0, 7), 7);
        sameTrail(x, 0, "habcdefg");
        Check.due("turn(0, 8)", x.turn(0, 8), BAD_VALUE);
        Check.due("turn(0, 0)", x.turn(0, 0), BAD_VALUE);
        sameTrail(x, 0, "habcdefg");
        Check.says("11: or not below the number of places of the route");
        Check.team(x, "c>a", 0);
        Check.due("turn(1, 2) of two places", x.turn(1, 2), BAD_VALUE);
        Check.due("turn(1, 1) of two places", x.turn(1, 1), 0);
        sameTrail(x, 1, "ac");
        Check.team(x, "h", 0);
        for (int by = 0; by <= 8; by++) {
            Check.due("turn(2, " + by + ") of one place", x.turn(2, by), BAD_VALUE);
        }
        sameTrail(x, 2, "h");
        Check.due("turn(3, 1)", x.turn(3, 1), NO_SUCH);
    }

    private static void turnOfClosedPlaces() {
        TrailTeams x = new TrailTeams();
        Check.team(x, "a>b>c", 4);
        x.close(1, true);
        Check.says("11: Returns the first place of the route then");
        Check.due("turn(0, 1), to a closed place", x.turn(0, 1), 1);
        sameTrail(x, 0, "ca");
        x.close(0, true);
        x.close(2, true);
        Check.due("turn(0, 2), with three closed places", x.turn(0, 2), 0);
        Check.due("turn(0, 3)", x.turn(0, 3), BAD_VALUE);
        Check.due("its end", x.teamOf(0, 1), 4);
        x.close(1, false);
        x.close(2, false);
        sameTrail(x, 0, "bc");
    }

    private static void exchangeAtItsEnds() {
        TrailTeams x = new TrailTeams();
        Check.team(x, Scenes.FORTH, 0);
        Check.says("12: one: a place of the route, by its number in it; other: likewise");
        Check.due("exchange(0, 0, 7)", x.exchange(0, 0, 7), 40 + 14 + 12 + 10 + 12);
        sameTrail(x, 0, "hbcdefga");
        Check.due("exchange(0, 7, 0)", x.exchange(0, 7, 0), 40 + 14);
        sameTrail(x, 0, "abcdefgh");
        Check.due("exchange(0, 6, 7)", x.exchange(0, 6, 7), 40 + 10 + 4 + 2);
        sameTrail(x, 0, "abcdefhg");
        Check.due("exchange(0, 7, 8)", x.exchange(0, 7, 8), NO_SUCH);
        Check.due("exchange(0, -1, 0)", x.exchange(0, -1, 0), NO_SUCH);
        Check.due("exchange(0, 7, 7)", x.exchange(0, 7, 7), BAD_VALUE);
        sameTrail(x, 0, "abcdefhg");
        Check.team(x, "c", 0);
        Check.due("exchange(1, 0, 0) of one place", x.exchange(1, 0, 0), BAD_VALUE);
        Check.due("exchange(1, 0, 1) of one place", x.exchange(1, 0, 1), NO_SUCH);
        Check.due("exchange(1, 1, 1) of one place", x.exchange(1, 1, 1), NO_SUCH);
        Check.team(x, "h>a", 0);
        Check.due("exchange(2, 1, 0) of two places", x.exchange(2, 1, 0), 5 + 5 + 14 + 5);
        Check.due("it queued behind the first one", x.teamOf(2, 4), 5);
    }

    private static void exchangeOfClosedPlaces() {
        TrailTeams x = new TrailTeams();
        Check.team(x, "a>b>c", 9);
        x.close(1, true);
        Check.says("12: a place of the route, by its number in it (a closed one has a number, too)");
        Check.due("exchange(0, 1, 2)", x.exchange(0, 1, 2), 9 + 10 + 4);
        sameTrail(x, 0, "ac");
        Check.due("exchange(0, 0, 1)", x.exchange(0, 0, 1), 9 + 10 + 8);
        sameTrail(x, 0, "ca");
        x.close(0, true);
        x.close(2, true);
        Check.due("exchange(0, 0, 2) without a trail", x.exchange(0, 0, 2), 9);
        Check.due("exchange(0, 0, 3) without a trail", x.exchange(0, 0, 3), NO_SUCH);
        x.close(1, false);
        x.close(2, false);
        sameTrail(x, 0, "bc");
    }

    private static void partOfNoneAndOne() {
        TrailTeams x = new TrailTeams();
        Check.says("13: Returns how many pairs of teams meet then, somewhere");
        Check.due("part() without teams", x.part(), 0);
        Check.due("without teams still", x.count(3), 0);
        Check.team(x, Scenes.FORTH, 200);
        Check.due("part() of one team", x.part(), 0);
        Check.due("its start", x.teamOf(0, 0), 0);
        Check.team(x, "a", 0);
        Check.due("pairs of two teams", x.count(5), 1);
        x.leave(1);
        x.leave(0);
        Check.due("part() with no teams any more", x.part(), 0);
    }

    private static void partOfSix() {
        TrailTeams x = new TrailTeams();
        x.place(0, 0, 0, 15);
        for (int team = 0; team < 6; team++) {
            Check.team(x, "a", 200 - team);
        }
        Check.says("13: by their numbers, the least start from 0 on with which they meet none of those ahead of them");
        Check.due("part()", x.part(), 0);
        for (int team = 0; team < 6; team++) {
            Check.due("start of " + team, x.teamOf(team, 0), 16 * team);
        }
        Check.due("part() again", x.part(), 0);
        Check.due("start of the last one", x.teamOf(5, 0), 80);
    }

    /** The second team, that goes the other way, has to come to h behind the first one, which leaves it at 219 or 220. */
    private static void partAtTheLatest() {
        Check.says("13: the least start; a team for which there is none up to 200 keeps its start");
        for (int more = 0; more <= 1; more++) {
            TrailTeams x = new TrailTeams();
            x.set(2, 5);
            x.place(0, 0, 0, 15);
            for (int place = 1; place <= 7; place++) {
                x.place(place, 20, 0, place == 3 ? 14 + more : 15);
            }
            Check.team(x, Scenes.FORTH, 100);
            Check.due("end of the first one", x.lose(0, 0), 100 + 219 + more);
            Check.team(x, Scenes.BACK, 33);
            Check.due("part()", x.part(), more);
            Check.due("start of the first one", x.teamOf(0, 0), 0);
            Check.due("start of the second one", x.teamOf(1, 0), more == 0 ? 200 : 33);
        }
    }

    private static void partWithAKeptStart() {
        TrailTeams x = new TrailTeams();
        Check.gather(x, 8, 15);
        Check.team(x, Scenes.FORTH, 7);
        Check.team(x, Scenes.BACK, 9);
        Check.team(x, Scenes.FORTH, 150);
        Check.team(x, "a", 150);
        Check.says("13: those ahead of them, also one that keeps its start");
        Check.due("part()", x.part(), 1);
        Check.due("the second one, behind the first one", x.teamOf(1, 0), 121);
        Check.due("the third one keeps its start", x.teamOf(2, 0), 150);
        Check.due("the last one, behind the first one alone at a", x.teamOf(3, 0), 16);
        Check.due("it meets nobody", x.teamOf(3, 9), 0);
        Check.due("the third one meets the second one alone", x.teamOf(2, 9), 2);
    }

    private static void partWithoutTrails() {
        TrailTeams x = Scenes.closed();
        Check.says("13: the least start from 0 on (teams without a trail meet nobody)");
        Check.due("part()", x.part(), 0);
        for (int team = 0; team < 6; team++) {
            Check.due("start of " + team, x.teamOf(team, 0), 0);
        }
        Check.due("the last end", x.count(6), 0);
    }
}
