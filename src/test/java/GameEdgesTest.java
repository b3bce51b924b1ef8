/** The boundary cases of promises 14 to 19, and of the terms on the game. */
public final class GameEdgesTest {
    private static final int NO_SUCH = -100001;
    private static final int BAD_VALUE = -100002;
    private static final int NONE = -100006;
    private static final int FAR = Integer.MAX_VALUE;

    public static void main(String[] args) {
        startsAtItsMinute();
        comesAsAnotherHasLooked();
        whoCameFirst();
        sixInOneMinute();
        goesOnInTheSameMinute();
        queuesMeetWithoutWalks();
        endsInThatMinute();
        withoutATrail();
        meetsInTheLastMinute();
        meetsFromTheQueue();
        meetsAtSeveralPlaces();
        meetsAtTheOnlyPlace();
        allMeet();
        pointsAtTheirEnds();
        winnerOfEqualTeams();
        rankOfUnequalTeams();
        visitsOfOneAndOfEight();
        trailsThatGetShorter();
        teamsThatGo();
        setsOfTeams();
        mostAtAPlace();
        whereAtTheEdges();
        toldAtTheEdges();
        questionsWithoutTeams();
        questionsOfSixTeams();
        questionsWithAllPlacesClosed();
        nothingChanges();
        Check.end("GameEdgesTest");
    }

    private static TrailTeams teamsAt(String route, int... starts) {
        TrailTeams x = new TrailTeams();
        for (int start : starts) {
            Check.team(x, route, start);
        }
        return x;
    }

    private static void startsAtItsMinute() {
        int[] starts = {0, 1, 199, 200};
        Check.says("A team is at the start at the minute at which it starts, and walks to the first place of its trail");
        for (int start : starts) {
            TrailTeams x = teamsAt("c", start);
            Check.due("it comes to c", x.visit(0, 0, 1), start + 4);
            Check.due("it looks at once", x.visit(0, 0, 2), start + 4);
            Check.due("it has looked", x.visit(0, 0, 3), start + 9);
            Check.due("told at its start", x.told(0, start), 2);
            Check.due("where at its start", x.where(0, start), NONE);
        }
    }

    private static void comesAsAnotherHasLooked() {
        Check.says("when it comes, it looks at once, if nobody does there; otherwise it queues");
        int[][] due = {{4, 5, 1}, {5, 5, 0}, {6, 6, 0}};
        for (int[] one : due) {
            TrailTeams x = teamsAt("a", 0, one[0]);
            Check.due("comes at " + one[0] + ": begins", x.visit(1, 0, 2), one[1]);
            Check.due("comes at " + one[0] + ": queues", x.teamOf(1, 4), one[2]);
            Check.due("comes at " + one[0] + ": minutes of the place", x.placeOf(0, 5), one[2]);
            Check.due("comes at " + one[0] + ": minutes of all", x.count(7), one[2]);
            x = teamsAt("a", one[0], 0);
            Check.due("the lower number comes at " + one[0] + ": begins", x.visit(0, 0, 2), one[1]);
            Check.due("the lower number comes at " + one[0] + ": queues", x.teamOf(0, 4), one[2]);
            Check.due("the lower number comes at " + one[0] + ": minutes of the place", x.placeOf(0, 5), one[2]);
        }
        TrailTeams x = teamsAt("a", 0);
        x.place(0, 0, 0, 1);
        Check.team(x, "a", 0);
        Check.team(x, "a", 1);
        Check.due("looks of one minute: the second one", x.visit(1, 0, 2), 1);
        Check.due("looks of one minute: the third one", x.visit(2, 0, 2), 2);
    }

    private static void whoCameFirst() {
        TrailTeams x = teamsAt("a", 3, 2, 1, 0);
        Check.says("Who came first looks first");
        int[] begins = {15, 10, 5, 0};
        for (int team = 0; team < 4; team++) {
            Check.due("begins of " + team, x.visit(team, 0, 2), begins[team]);
        }
        Check.says("of teams that came in the same minute the one with the lower number");
        x = teamsAt("a", 3, 1, 1, 0);
        int[] then = {15, 5, 10, 0};
        for (int team = 0; team < 4; team++) {
            Check.due("begins of " + team, x.visit(team, 0, 2), then[team]);
        }
        x = teamsAt("b", 0, 2);
        Check.write(x, "a");
        x.place(0, 4, 0, 5);
        x.route(0);
        x.place(1, 2, 0, 5);
        Check.team(x, "a", 0);
        Check.due("both come at 4, the lower number", x.visit(0, 0, 2), 4);
        Check.due("both come at 4, the higher one", x.visit(2, 0, 2), 9);
    }

    private static void sixInOneMinute() {
        TrailTeams x = teamsAt("h", 200, 200, 200, 200, 200, 200);
        x.place(7, 20, 20, 15);
        Check.says("of teams that came in the same minute the one with the lower number");
        for (int team = 0; team < 6; team++) {
            Check.due("comes, " + team, x.visit(team, 0, 1), 240);
            Check.due("begins, " + team, x.visit(team, 0, 2), 240 + 15 * team);
            Check.due("queues, " + team, x.teamOf(team, 4), 15 * team);
        }
        Check.due("minutes of all", x.count(7), 225);
        Check.due("the last end", x.count(6), 330);
    }

    private static void goesOnInTheSameMinute() {
        TrailTeams x = teamsAt("a>b", 0, 0);
        Check.says("A team that has looked goes on in the same minute, and the next one of the queue begins in that minute");
        Check.due("the first one has looked", x.visit(0, 0, 3), 5);
        Check.due("it comes to b", x.visit(0, 1, 1), 7);
        Check.due("the next one begins", x.visit(1, 0, 2), 5);
        Check.due("the next one comes to b", x.visit(1, 1, 1), 12);
        Check.due("b is free as it comes", x.visit(1, 1, 2), 12);
        x = teamsAt("a", 0, 0, 5);
        Check.due("one that comes in that minute is behind the queue", x.visit(2, 0, 2), 10);
        x = teamsAt("a", 5, 0, 0);
        Check.due("also with a lower number", x.visit(0, 0, 2), 10);
        Check.due("the one that queued", x.visit(2, 0, 2), 5);
    }

    /** All at one point: who has looked at one place comes to the next one in the same minute. */
    private static void queuesMeetWithoutWalks() {
        TrailTeams x = new TrailTeams();
        Check.gather(x, 3, 5);
        Check.team(x, "b>c", 0);
        Check.team(x, "a>c", 0);
        Check.team(x, "c", 5);
        Check.says("Who came first looks first; of teams that came in the same minute the one with the lower number");
        for (int team = 0; team < 3; team++) {
            Check.due("comes to c, " + team, x.visit(team, team == 2 ? 0 : 1, 1), 5);
            Check.due("begins at c, " + team, x.visit(team, team == 2 ? 0 : 1, 2), 5 + 5 * team);
        }
        Check.due("told as it has looked", x.told(0, 5), 2);
        Check.due("where as it has looked", x.where(0, 5), 2);
        Check.due("where in the minute ahead", x.where(0, 4), 1);
        Check.due("the most at c", x.placeOf(2, 6), 3);
        x.start(2, 4);
        Check.due("the last number a minute earlier", x.visit(2, 0, 2), 4);
        Check.due("the first number then", x.visit(0, 1, 2), 9);
    }

    private static void endsInThatMinute() {
        TrailTeams x = teamsAt("a>b", 3);
        Check.says("A team that has looked at the last place of its trail has ended, in that minute");
        Check.due("its end", x.teamOf(0, 1), 15);
        Check.due("told in the minute ahead", x.told(0, 14), 1);
        Check.due("told at its end", x.told(0, 15), NONE);
        Check.due("where in the minute ahead", x.where(0, 14), 1);
        Check.due("where at its end", x.where(0, 15), NONE);
        Check.due("the last end", x.count(6), 15);
        Check.due("points", x.teamOf(0, 6), 400 - 15);
    }

    private static void withoutATrail() {
        TrailTeams x = teamsAt("a", 0, 200);
        x.close(0, true);
        Check.says("a team without a trail ends as it starts");
        int[] due = {200, 200, 1, 0, 0, 0, -200, 1, 0, 0};
        for (int what = 0; what <= 9; what++) {
            Check.due("teamOf(1, " + what + ")", x.teamOf(1, what), due[what]);
        }
        Check.due("its first visit", x.visit(1, 0, 0), NONE);
        Check.due("told at its start", x.told(1, 200), NONE);
        Check.due("told ahead of it", x.told(1, 199), NONE);
        Check.due("where at its start", x.where(1, 200), NONE);
        Check.due("where at 0", x.where(0, 0), NONE);
        Check.due("the last end", x.count(6), 200);
        Check.due("the winner", x.count(8), 0);
        Check.due("points of all", x.count(9), -200);
        Check.due("visits", x.count(10), 0);
    }

    private static void meetsInTheLastMinute() {
        Check.says("have a minute in common (the first and the last one counted)");
        int[][] due = {{4, 1}, {5, 1}, {6, 0}};
        for (int[] one : due) {
            TrailTeams x = teamsAt("a", 0, one[0]);
            Check.due("comes at " + one[0] + ": pairs at a", x.placeOf(0, 7), one[1]);
            Check.due("comes at " + one[0] + ": pairs", x.count(5), one[1]);
            Check.due("comes at " + one[0] + ": whom 0 meets", x.teamOf(0, 9), 2 * one[1]);
            Check.due("comes at " + one[0] + ": whom 1 meets", x.teamOf(1, 9), one[1]);
            x = teamsAt("a", one[0], 0);
            Check.due("0 comes at " + one[0] + ": pairs at a", x.placeOf(0, 7), one[1]);
            Check.due("0 comes at " + one[0] + ": whom it meets", x.teamOf(0, 9), 2 * one[1]);
        }
        TrailTeams x = teamsAt("a", 0, 0);
        Check.write(x, "b");
        x.route(1);
        Check.says("Two teams meet at a place if both come to it");
        Check.due("at two places of one minute", x.count(5), 0);
        x.place(1, 0, 0, 5);
        Check.due("at two places of one point", x.count(5), 0);
    }

    /** Who looks last has come while the first one looked. */
    private static void meetsFromTheQueue() {
        Check.says("the minutes from the coming of the one to the end of its look, and those of the other one");
        int[][] orders = {{0, 1, 2}, {2, 1, 0}, {1, 2, 0}, {2, 0, 1}};
        for (int[] starts : orders) {
            TrailTeams x = teamsAt("a", starts);
            Check.due("pairs", x.placeOf(0, 7), 3);
            for (int team = 0; team < 3; team++) {
                Check.due("whom " + team + " meets", x.teamOf(team, 9), 7 - (1 << team));
            }
        }
        TrailTeams x = teamsAt("a", 6, 4, 0);
        Check.due("the first number comes as the last one is gone", x.teamOf(0, 9), 2);
        Check.due("the second one meets both", x.teamOf(1, 9), 5);
        Check.due("pairs", x.placeOf(0, 7), 2);
    }

    private static void meetsAtSeveralPlaces() {
        TrailTeams x = teamsAt("a>b>c", 0, 1);
        Check.says("5 pairs of teams that meet somewhere; 7 pairs of teams that meet there");
        for (int place = 0; place <= 2; place++) {
            Check.due("pairs at " + place, x.placeOf(place, 7), 1);
        }
        Check.due("pairs somewhere", x.count(5), 1);
        Check.due("whom 0 meets", x.teamOf(0, 9), 2);
        Check.write(x, "c>b>a");
        x.route(1);
        Check.due("the other way, at c", x.placeOf(2, 7), 0);
        Check.due("the other way, at b in the last minute", x.placeOf(1, 7), 1);
        Check.due("the other way, at a", x.placeOf(0, 7), 0);
        Check.due("the other way, somewhere", x.count(5), 1);
        x.start(1, 2);
        Check.due("the other way, a minute later", x.count(5), 0);
    }

    /** A trail of one place and one of eight, that meet at the last place of the longer one. */
    private static void meetsAtTheOnlyPlace() {
        Check.says("Two teams meet at a place if both come to it (routes of one place and of eight)");
        int[][] due = {{29, 0}, {30, 1}, {40, 1}, {41, 0}};
        for (int[] one : due) {
            TrailTeams x = teamsAt(Scenes.FORTH, 0);
            Check.team(x, "h", one[0]);
            Check.due("the long one first: pairs, start " + one[0], x.count(5), one[1]);
            Check.due("the long one first: whom 0 meets", x.teamOf(0, 9), 2 * one[1]);
            Check.due("the long one first: whom 1 meets", x.teamOf(1, 9), one[1]);
            x = teamsAt("h", one[0]);
            Check.team(x, Scenes.FORTH, 0);
            Check.due("the short one first: pairs, start " + one[0], x.count(5), one[1]);
            Check.due("the short one first: whom 0 meets", x.teamOf(0, 9), 2 * one[1]);
            Check.due("the short one first: whom 1 meets", x.teamOf(1, 9), one[1]);
        }
    }

    private static void allMeet() {
        TrailTeams x = teamsAt(Scenes.FORTH, 0, 0, 0, 0, 0, 0);
        Check.says("9 teams that it meets somewhere, as a set");
        for (int team = 0; team < 6; team++) {
            Check.due("whom " + team + " meets", x.teamOf(team, 9), 63 - (1 << team));
        }
        Check.due("pairs", x.count(5), 15);
        for (int place = 0; place <= 7; place++) {
            Check.due("pairs at " + place, x.placeOf(place, 7), place == 0 ? 15 : 5);
        }
    }

    private static void pointsAtTheirEnds() {
        TrailTeams x = teamsAt(Scenes.FORTH, 200);
        for (int place = 0; place <= 7; place++) {
            x.hint(0, place, true);
        }
        x.set(0, 50);
        x.set(1, 0);
        Check.says("PRIZE for each place of its trail, less FEE for each hint at such a place, less the minute ..");
        Check.due("the greatest fees, no prize", x.teamOf(0, 6), -8 * 50 - (200 + 14 + 24));
        x.set(1, 500);
        x.set(0, 0);
        x.start(0, 0);
        Check.due("no fees, the greatest prize", x.teamOf(0, 6), 8 * 500 - 38);
        for (int place = 1; place <= 7; place++) {
            x.close(place, true);
        }
        x.set(0, 7);
        Check.due("one place left", x.teamOf(0, 6), 500 - 7 - 3);
        x.close(0, true);
        Check.due("no place left", x.teamOf(0, 6), 0);
    }

    private static void winnerOfEqualTeams() {
        TrailTeams x = new TrailTeams();
        Check.says("The winner is the team with the most points, .. of these the one with the lowest number");
        for (int team = 0; team < 6; team++) {
            Check.team(x, "" + (char) ('a' + team), 10 - 2 * team);
        }
        for (int team = 0; team < 6; team++) {
            Check.due("points of " + team, x.teamOf(team, 6), 200 - 15);
            Check.due("rank of " + team, x.teamOf(team, 7), team);
        }
        Check.due("the winner", x.count(8), 0);
        x.start(5, 1);
        Check.due("a minute later: rank of 5", x.teamOf(5, 7), 5);
        x.start(4, 1);
        Check.due("a minute earlier: rank of 4", x.teamOf(4, 7), 0);
        Check.due("a minute earlier: rank of 0", x.teamOf(0, 7), 1);
        Check.due("the winner then", x.count(8), 4);
    }

    private static void rankOfUnequalTeams() {
        TrailTeams x = new TrailTeams();
        Check.gather(x, 6, 10);
        x.set(0, 5);
        for (int team = 0; team < 6; team++) {
            Check.team(x, "" + (char) ('a' + team), 0);
        }
        x.hint(1, 1, true);
        x.hint(3, 3, true);
        Check.says("of several the one that ends first (as many points with a hint and without one)");
        int[] ranks = {2, 0, 3, 1, 4, 5};
        for (int team = 0; team < 6; team++) {
            Check.due("points of " + team, x.teamOf(team, 6), 190);
            Check.due("rank of " + team, x.teamOf(team, 7), ranks[team]);
        }
        Check.due("the winner", x.count(8), 1);
        x.set(0, 6);
        Check.due("a point less: rank of 1", x.teamOf(1, 7), 4);
        Check.due("a point less: the winner", x.count(8), 0);
        x.set(0, 4);
        Check.due("a point more: rank of 3", x.teamOf(3, 7), 1);
    }

    private static void visitsOfOneAndOfEight() {
        TrailTeams x = teamsAt(Scenes.FORTH, 0);
        Check.team(x, "h", 0);
        Check.says("14: visit: 0 for the first one, and so on; NONE if there is no such visit");
        int[] last = {7, 49, 49, 54, 2};
        int[] only = {7, 14, 14, 19, 14};
        for (int what = 0; what <= 4; what++) {
            Check.due("visit(0, 7, " + what + ")", x.visit(0, 7, what), last[what]);
            Check.due("visit(0, 8, " + what + ")", x.visit(0, 8, what), NONE);
            Check.due("visit(1, 0, " + what + ")", x.visit(1, 0, what), only[what]);
            Check.due("visit(1, 1, " + what + ")", x.visit(1, 1, what), NONE);
            Check.due("visit(1, -1, " + what + ")", x.visit(1, -1, what), NONE);
            Check.due("visit(1, MAX, " + what + ")", x.visit(1, FAR, what), NONE);
            Check.due("visit(1, MIN, " + what + ")", x.visit(1, Integer.MIN_VALUE, what), NONE);
        }
        Check.due("visit(0, 0, 5)", x.visit(0, 0, 5), BAD_VALUE);
        Check.due("visit(0, 8, -1)", x.visit(0, 8, -1), BAD_VALUE);
        Check.due("visit(2, 0, 0)", x.visit(2, 0, 0), NO_SUCH);
    }

    /** What was answered about the longer trail is not kept. */
    private static void trailsThatGetShorter() {
        TrailTeams x = teamsAt(Scenes.FORTH, 0);
        Check.due("where at 50, with the long trail", x.where(0, 50), 7);
        Check.due("the end of the long trail", x.teamOf(0, 1), 54);
        Check.write(x, "a>b");
        x.route(0);
        Check.says("NONE if there is no such visit; NONE if it is at no place; NONE if it has ended");
        Check.due("a third visit", x.visit(0, 2, 0), NONE);
        Check.due("where at 15", x.where(0, 15), NONE);
        Check.due("where at 50", x.where(0, 50), NONE);
        Check.due("told at 15", x.told(0, 15), NONE);
        Check.due("who comes to c", x.placeOf(2, 4), 0);
        Check.due("who comes to h", x.placeOf(7, 4), 0);
        Check.due("the most at h", x.placeOf(7, 6), 0);
        x.close(1, true);
        Check.due("where at 8, with b closed", x.where(0, 8), NONE);
        Check.due("told at 5, with b closed", x.told(0, 5), NONE);
        Check.due("where at 4, with b closed", x.where(0, 4), 0);
    }

    private static void teamsThatGo() {
        TrailTeams x = teamsAt(Scenes.FORTH, 0, 0, 0);
        Check.due("pairs of three", x.count(5), 3);
        x.leave(1);
        Check.says("5 pairs of teams that meet somewhere (of those that are left)");
        Check.due("pairs of two", x.count(5), 1);
        Check.due("pairs at a", x.placeOf(0, 7), 1);
        Check.due("who comes to a", x.placeOf(0, 4), 3);
        Check.due("the most at a", x.placeOf(0, 6), 2);
        Check.due("queues at a", x.placeOf(0, 5), 5);
        x.leave(0);
        Check.due("nobody queues", x.count(7), 0);
        Check.due("the last end", x.count(6), 54);
        Check.due("visits", x.count(10), 8);
        Check.due("whom it meets", x.teamOf(0, 9), 0);
    }

    private static void setsOfTeams() {
        Check.says("4 teams that come to it, as a set");
        TrailTeams x = new TrailTeams();
        for (int team = 0; team < 6; team++) {
            Check.team(x, "a>" + (char) ('b' + team), 0);
            Check.due("who comes to a", x.placeOf(0, 4), (2 << team) - 1);
            Check.due("who comes to place " + (1 + team), x.placeOf(1 + team, 4), 1 << team);
        }
        Check.due("who comes to h", x.placeOf(7, 4), 0);
        x.close(0, true);
        Check.due("who comes to a, closed", x.placeOf(0, 4), 0);
    }

    private static void mostAtAPlace() {
        Check.says("from the coming on up to the minute ahead of the end of the look");
        int[][] due = {{4, 2}, {5, 1}};
        for (int[] one : due) {
            Check.due("comes at " + one[0], teamsAt("a", 0, one[0]).placeOf(0, 6), one[1]);
            Check.due("0 comes at " + one[0], teamsAt("a", one[0], 0).placeOf(0, 6), one[1]);
        }
        Check.due("one comes as another goes from a queue", teamsAt("a", 0, 1, 5).placeOf(0, 6), 2);
        Check.due("one comes a minute earlier", teamsAt("a", 0, 1, 4).placeOf(0, 6), 3);
        Check.due("the most are there later", teamsAt("a", 0, 20, 21, 22).placeOf(0, 6), 3);
        Check.due("the most are there earlier", teamsAt("a", 0, 1, 2, 20).placeOf(0, 6), 3);
        Check.due("six", teamsAt("a", 0, 1, 2, 3, 4, 4).placeOf(0, 6), 6);
        Check.due("nobody", teamsAt("a", 0).placeOf(1, 6), 0);
    }

    private static void whereAtTheEdges() {
        TrailTeams x = teamsAt("a>c", 0, 0);
        Check.says("17: the place to which it came, if it has not gone on from there (in the minute in which ..)");
        int[][] due = {{0, 0, 0}, {0, 4, 0}, {0, 5, NONE}, {0, 8, NONE}, {0, 9, 2}, {0, 13, 2}, {0, 14, NONE},
            {1, 0, 0}, {1, 9, 0}, {1, 10, NONE}, {1, 13, NONE}, {1, 14, 2}, {1, 18, 2}, {1, 19, NONE}, {1, FAR, NONE}};
        for (int[] one : due) {
            Check.due("where(" + one[0] + ", " + one[1] + ")", x.where(one[0], one[1]), one[2]);
        }
        x.start(0, 200);
        Check.due("where ahead of its start", x.where(0, 199), NONE);
        Check.due("where at its start, at the first place", x.where(0, 200), 0);
        Check.due("where(0, 0)", x.where(0, 0), NONE);
        Check.due("where(0, -1)", x.where(0, -1), BAD_VALUE);
        Check.due("where(0, MIN)", x.where(0, Integer.MIN_VALUE), BAD_VALUE);
        Check.due("where(2, 0)", x.where(2, 0), NO_SUCH);
    }

    private static void toldAtTheEdges() {
        TrailTeams x = teamsAt("b>c", 0, 3);
        Check.says("18: it is told a place as it starts, and as it has looked at the one before");
        int[][] due = {{0, 0, 1}, {0, 6, 1}, {0, 7, 2}, {0, 13, 2}, {0, 14, NONE}, {0, FAR, NONE},
            {1, 0, NONE}, {1, 2, NONE}, {1, 3, 1}, {1, 11, 1}, {1, 12, 2}, {1, 18, 2}, {1, 19, NONE}};
        for (int[] one : due) {
            Check.due("told(" + one[0] + ", " + one[1] + ")", x.told(one[0], one[1]), one[2]);
        }
        x.start(0, 200);
        Check.due("told ahead of its start", x.told(0, 199), NONE);
        Check.due("told at its start", x.told(0, 200), 1);
        Check.due("told(0, -1)", x.told(0, -1), BAD_VALUE);
        Check.due("told(0, MIN)", x.told(0, Integer.MIN_VALUE), BAD_VALUE);
        Check.due("told(2, 0)", x.told(2, 0), NO_SUCH);
    }

    private static void questionsWithoutTeams() {
        TrailTeams x = new TrailTeams();
        Check.says("19: 6 the minute at which the last team ends (0 without any), 8 the winner (NONE without teams)");
        int[] counts = {10, 200, 2, 0, 8, 0, 0, 0, NONE, 0, 0, 0, 0};
        for (int what = 0; what <= 12; what++) {
            Check.due("count(" + what + ")", x.count(what), counts[what]);
        }
        Check.due("count(13)", x.count(13), BAD_VALUE);
        Check.due("count(-1)", x.count(-1), BAD_VALUE);
        Check.says("NO_SUCH if there is no such team");
        Check.due("visit(0, 0, 0)", x.visit(0, 0, 0), NO_SUCH);
        Check.due("teamOf(0, 1)", x.teamOf(0, 1), NO_SUCH);
        Check.due("where(0, 0)", x.where(0, 0), NO_SUCH);
        Check.due("told(0, 0)", x.told(0, 0), NO_SUCH);
        Check.says("16: with no teams");
        int[] facts = {14, 0, 5, 1, 0, 0, 0, 0};
        for (int what = 0; what <= 7; what++) {
            Check.due("placeOf(7, " + what + ")", x.placeOf(7, what), facts[what]);
        }
        Check.due("placeOf(7, 8)", x.placeOf(7, 8), BAD_VALUE);
        Check.due("placeOf(8, 0)", x.placeOf(8, 0), NO_SUCH);
    }

    private static void questionsOfSixTeams() {
        TrailTeams x = teamsAt(Scenes.FORTH, 0, 0, 0, 0, 0, 0);
        Check.write(x, Scenes.FORTH + "aaaaa");
        Check.says("19: with 6 teams of eight places, a full history and a full pad");
        int[] counts = {10, 200, 2, 6, 8, 15, 79, 75, 0, 9600 - 399, 48, 20, 6};
        for (int what = 0; what <= 12; what++) {
            Check.due("count(" + what + ")", x.count(what), counts[what]);
        }
        Check.says("15: about the last of six teams");
        int[] facts = {0, 79, 8, 8, 25, 14, 1600 - 79, 5, 0, 31};
        for (int what = 0; what <= 9; what++) {
            Check.due("teamOf(5, " + what + ")", x.teamOf(5, what), facts[what]);
        }
        Check.due("teamOf(5, 10)", x.teamOf(5, 10), BAD_VALUE);
        Check.due("teamOf(6, 0)", x.teamOf(6, 0), NO_SUCH);
        Check.says("16: about the first and the last place");
        int[] first = {0, 0, 5, 1, 63, 75, 6, 15};
        int[] last = {14, 0, 5, 1, 63, 0, 1, 5};
        for (int what = 0; what <= 7; what++) {
            Check.due("placeOf(0, " + what + ")", x.placeOf(0, what), first[what]);
            Check.due("placeOf(7, " + what + ")", x.placeOf(7, what), last[what]);
        }
    }

    private static void questionsWithAllPlacesClosed() {
        TrailTeams x = Scenes.closed();
        Check.says("19: with 6 teams, and all places closed");
        int[] counts = {10, 200, 2, 6, 0, 0, 50, 0, 0, -150, 0, 3, 6};
        for (int what = 0; what <= 12; what++) {
            Check.due("count(" + what + ")", x.count(what), counts[what]);
        }
        for (int team = 0; team < 6; team++) {
            int[] facts = {10 * team, 10 * team, 1 + team, 0, 0, 0, -10 * team, team, 0, 0};
            for (int what = 0; what <= 9; what++) {
                Check.due("teamOf(" + team + ", " + what + ")", x.teamOf(team, what), facts[what]);
            }
            Check.due("visit(" + team + ", 0, 0)", x.visit(team, 0, 0), NONE);
            Check.due("where(" + team + ", 50)", x.where(team, 50), NONE);
            Check.due("told(" + team + ", 50)", x.told(team, 50), NONE);
        }
        for (int place = 0; place <= 7; place++) {
            int[] facts = {2 * place, 0, 5, 0, 0, 0, 0, 0};
            for (int what = 0; what <= 7; what++) {
                Check.due("placeOf(" + place + ", " + what + ")", x.placeOf(place, what), facts[what]);
            }
        }
    }

    private static void nothingChanges() {
        Check.says("what there is; nothing changes");
        for (Twins twins : Twins.ofAllScenes()) {
            int teams = twins.teams();
            twins.unchanged("what there is", x -> {
                for (int what = 0; what <= 12; what++) {
                    x.count(what);
                    x.placeOf(what % 8, what % 8);
                }
                for (int team = 0; team < teams; team++) {
                    for (int what = 0; what <= 9; what++) {
                        x.teamOf(team, what);
                    }
                    for (int what = 0; what <= 4; what++) {
                        x.visit(team, what, what);
                    }
                    x.where(team, 10);
                    x.told(team, 10);
                }
            });
        }
    }
}
