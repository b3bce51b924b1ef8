/** Promises 14 to 19: what there is. */
public final class AnswersTest {
    private static final int NO_SUCH = -100001;
    private static final int BAD_VALUE = -100002;
    private static final int NONE = -100006;

    public static void main(String[] args) {
        visit();
        visitsInAQueue();
        theFirstTeamQueues();
        asManyVisitsAsThereCanBe();
        walksBothWays();
        teamOf();
        ranks();
        placeOf();
        meetings();
        where();
        told();
        count();
        nothingChanges();
        Check.end("AnswersTest");
    }

    /** Team 0 comes to b at 3, 2 minutes ahead of team 1, which goes on without its map from there. */
    private static TrailTeams twoTeams() {
        TrailTeams x = new TrailTeams();
        Check.team(x, "b>a", 1);
        Check.team(x, "b>d>c", 3);
        x.lose(1, 1);
        x.hint(1, 3, true);
        return x;
    }

    private static void visit() {
        TrailTeams x = twoTeams();
        int[][] due = {{0, 0, 1, 3, 3, 8, 2}, {0, 1, 0, 10, 10, 15, 2},
            {1, 0, 1, 5, 8, 13, 2}, {1, 1, 3, 21, 21, 24, 8}, {1, 2, 2, 28, 28, 33, 4}};
        for (int[] one : due) {
            for (int what = 0; what <= 4; what++) {
                String call = "14: visit(" + one[0] + ", " + one[1] + ", " + what + ")";
                Check.due(call, x.visit(one[0], one[1], what), one[2 + what]);
            }
        }
        Check.due("14: visit(0, 2, 0)", x.visit(0, 2, 0), NONE);
        Check.due("14: visit(0, -1, 4)", x.visit(0, -1, 4), NONE);
        Check.due("14: visit(0, 8, 1)", x.visit(0, 8, 1), NONE);
        Check.due("14: visit(0, 9, 5)", x.visit(0, 9, 5), BAD_VALUE);
        Check.due("14: visit(0, 0, 5)", x.visit(0, 0, 5), BAD_VALUE);
        Check.due("14: visit(0, 0, -1)", x.visit(0, 0, -1), BAD_VALUE);
        Check.due("14: visit(2, 0, 5)", x.visit(2, 0, 5), NO_SUCH);
        Check.due("14: visit(-1, 0, 0)", x.visit(-1, 0, 0), NO_SUCH);
        x.close(3, true);
        Check.due("14: the trail is without closed places", x.visit(1, 1, 0), 2);
        Check.due("14: no third visit then", x.visit(1, 2, 0), NONE);
        Check.due("14: the walk to it", x.visit(1, 1, 4), 4);
    }

    private static void visitsInAQueue() {
        TrailTeams x = new TrailTeams();
        Check.gather(x, 2, 4);
        Check.team(x, "b>a", 0);
        Check.team(x, "a", 3);
        Check.team(x, "a", 2);
        Check.team(x, "a", 3);
        Check.team(x, "a", 4);
        Check.due("14: who came first looks first", x.visit(2, 0, 2), 2);
        Check.due("14: of the same minute the lower number", x.visit(1, 0, 2), 6);
        Check.due("14: then the higher one", x.visit(3, 0, 2), 10);
        Check.due("14: one that goes on to a queue without a walk", x.visit(0, 1, 2), 14);
        Check.due("14: the last one", x.visit(4, 0, 2), 18);
        x.start(2, 0);
        Check.due("14: a place that gets free in the minute of coming", x.visit(1, 0, 2), 4);
        Check.due("14: it is free for who queues, not for who comes", x.visit(0, 1, 2), 12);
    }

    private static void theFirstTeamQueues() {
        TrailTeams x = new TrailTeams();
        Check.team(x, "a", 1);
        Check.team(x, "a", 0);
        Check.due("14: the lower number that comes later", x.visit(0, 0, 2), 5);
        Check.due("15: it queues", x.teamOf(0, 4), 4);
        Check.due("16: minutes of its queue", x.placeOf(0, 5), 4);
        Check.due("16: the most as it comes", x.placeOf(0, 6), 2);
        Check.due("19: it ends last", x.count(6), 10);
        Check.due("19: all minutes of queues", x.count(7), 4);
        Check.due("19: the other one wins", x.count(8), 1);
    }

    private static void asManyVisitsAsThereCanBe() {
        TrailTeams x = new TrailTeams();
        Check.gather(x, 8, 15);
        for (int team = 0; team < 6; team++) {
            Check.team(x, "a>b>c>d>e>f>g>h", 0);
        }
        for (int team = 0; team < 6; team++) {
            Check.due("14: the last visit of " + team, x.visit(team, 7, 3), 15 * (8 + team));
            Check.due("15: it queues at the first place alone", x.teamOf(team, 4), 15 * team);
        }
        Check.due("19: visits", x.count(10), 48);
        Check.due("19: the last end", x.count(6), 195);
        Check.due("19: minutes of queues", x.count(7), 225);
        Check.due("19: pairs", x.count(5), 15);
        Check.due("16: the most in one minute", x.placeOf(0, 6), 6);
    }

    private static void walksBothWays() {
        TrailTeams x = new TrailTeams();
        x.place(0, 20, 20, 5);
        x.place(1, 18, 3, 5);
        x.place(2, 19, 7, 5);
        Check.team(x, "a>b>c", 0);
        Check.due("14: from the start", x.visit(0, 0, 4), 40);
        Check.due("14: back in x and in y", x.visit(0, 1, 4), 2 + 17);
        Check.due("14: on in x and in y", x.visit(0, 2, 4), 1 + 4);
        Check.due("15: minutes of walking", x.teamOf(0, 5), 64);
    }

    private static void teamOf() {
        TrailTeams x = twoTeams();
        int[][] due = {{1, 15, 2, 2, 0, 4, 385, 1, 0, 2}, {3, 33, 3, 3, 3, 14, 557, 0, 1, 1}};
        for (int team = 0; team < 2; team++) {
            for (int what = 0; what <= 9; what++) {
                Check.due("15: teamOf(" + team + ", " + what + ")", x.teamOf(team, what), due[team][what]);
            }
            Check.due("15: teamOf(" + team + ", 10)", x.teamOf(team, 10), BAD_VALUE);
            Check.due("15: teamOf(" + team + ", -1)", x.teamOf(team, -1), BAD_VALUE);
        }
        Check.due("15: teamOf(2, 0)", x.teamOf(2, 0), NO_SUCH);
        Check.due("15: teamOf(-1, 10)", x.teamOf(-1, 10), NO_SUCH);
        x.close(3, true);
        Check.due("15: places of the route", x.teamOf(1, 2), 3);
        Check.due("15: places of the trail", x.teamOf(1, 3), 2);
        Check.due("15: no hint at a closed place", x.teamOf(1, 8), 0);
        Check.due("15: no fee for it", x.teamOf(1, 6), 400 - 22);
        x.close(1, true);
        x.close(2, true);
        int[] idle = {3, 3, 3, 0, 0, 0, -3, 1, 0, 0};
        for (int what = 0; what <= 9; what++) {
            Check.due("15: teamOf(1, " + what + ") without a trail", x.teamOf(1, what), idle[what]);
        }
    }

    private static void ranks() {
        TrailTeams x = new TrailTeams();
        Check.gather(x, 4, 5);
        x.set(0, 2);
        x.set(1, 5);
        Check.team(x, "a", 0);
        Check.team(x, "b", 0);
        Check.team(x, "c", 0);
        Check.team(x, "d", 1);
        x.hint(1, 1, true);
        x.hint(2, 2, true);
        int[] points = {0, 0, 0, -1};
        int[] ranks = {2, 0, 1, 3};
        for (int team = 0; team < 4; team++) {
            Check.due("15: points of " + team, x.teamOf(team, 6), points[team]);
            Check.due("15: rank of " + team, x.teamOf(team, 7), ranks[team]);
        }
        Check.due("19: of as many points the one that ends first", x.count(8), 1);
        x.hint(2, 2, false);
        x.hint(1, 1, false);
        Check.due("19: of these the lowest number", x.count(8), 0);
        Check.due("15: rank of 2 then", x.teamOf(2, 7), 2);
    }

    private static void placeOf() {
        TrailTeams x = twoTeams();
        int[] due = {2, 0, 5, 1, 3, 3, 2, 1};
        for (int what = 0; what <= 7; what++) {
            Check.due("16: placeOf(1, " + what + ")", x.placeOf(1, what), due[what]);
        }
        int[] alone = {6, 0, 5, 1, 2, 0, 1, 0};
        for (int what = 0; what <= 7; what++) {
            Check.due("16: placeOf(3, " + what + ")", x.placeOf(3, what), alone[what]);
        }
        Check.due("16: placeOf(7, 6), nobody comes", x.placeOf(7, 6), 0);
        Check.due("16: placeOf(1, 8)", x.placeOf(1, 8), BAD_VALUE);
        Check.due("16: placeOf(1, -1)", x.placeOf(1, -1), BAD_VALUE);
        Check.due("16: placeOf(8, 8)", x.placeOf(8, 8), NO_SUCH);
        Check.due("16: placeOf(-1, 0)", x.placeOf(-1, 0), NO_SUCH);
        x.place(1, 4, 7, 9);
        Check.due("16: y", x.placeOf(1, 1), 7);
        Check.due("16: looking", x.placeOf(1, 2), 9);
        x.close(1, true);
        int[] closed = {4, 7, 9, 0, 0, 0, 0, 0};
        for (int what = 0; what <= 7; what++) {
            Check.due("16: placeOf(1, " + what + ") of a closed place", x.placeOf(1, what), closed[what]);
        }
    }

    /** Who comes in the minute in which another has looked meets it, but is not there in one minute with it. */
    private static void meetings() {
        TrailTeams x = new TrailTeams();
        Check.team(x, "a", 0);
        Check.team(x, "a", 5);
        Check.team(x, "a", 11);
        Check.due("16: pairs that meet", x.placeOf(0, 7), 1);
        Check.due("16: the most in one minute", x.placeOf(0, 6), 1);
        Check.due("15: meets 0", x.teamOf(1, 9), 1);
        Check.due("15: meets 1", x.teamOf(0, 9), 2);
        Check.due("15: meets nobody", x.teamOf(2, 9), 0);
        x.start(1, 4);
        Check.due("16: the most a minute earlier", x.placeOf(0, 6), 2);
        x.start(2, 4);
        Check.due("16: with three", x.placeOf(0, 6), 3);
        Check.due("16: who queues meets too", x.placeOf(0, 7), 3);
        Check.due("16: minutes of two queues", x.placeOf(0, 5), 1 + 6);
        x.start(2, 10);
        Check.due("15: meets only 1", x.teamOf(2, 9), 2);
        Check.write(x, "b>a");
        x.route(2);
        x.start(2, 0);
        Check.due("16: comes as it gets free, and meets one of two", x.placeOf(0, 7), 2);
        x.place(1, 0, 0, 1);
        Check.write(x, "b>a");
        x.route(0);
        Check.due("19: a pair that meets twice counts once", x.count(5), 3);
        Check.due("16: at the other place", x.placeOf(1, 7), 1);
    }

    private static void where() {
        TrailTeams x = twoTeams();
        int[][] due = {{0, 0, NONE}, {0, 1, NONE}, {0, 2, NONE}, {0, 3, 1}, {0, 7, 1}, {0, 8, NONE}, {0, 9, NONE},
            {0, 10, 0}, {0, 14, 0}, {0, 15, NONE}, {0, Integer.MAX_VALUE, NONE},
            {1, 4, NONE}, {1, 5, 1}, {1, 12, 1}, {1, 13, NONE}, {1, 20, NONE}, {1, 21, 3}, {1, 24, NONE}, {1, 28, 2}};
        for (int[] one : due) {
            Check.due("17: where(" + one[0] + ", " + one[1] + ")", x.where(one[0], one[1]), one[2]);
        }
        Check.due("17: where(0, -1)", x.where(0, -1), BAD_VALUE);
        Check.due("17: where(2, -1)", x.where(2, -1), NO_SUCH);
        Check.due("17: where(-1, 0)", x.where(-1, 0), NO_SUCH);
        Check.gather(x, 2, 5);
        Check.due("17: on without a walk", x.where(0, 6), 0);
        Check.due("17: from the other place", x.where(0, 5), 1);
    }

    private static void told() {
        TrailTeams x = twoTeams();
        int[][] due = {{0, 0, NONE}, {0, 1, 1}, {0, 3, 1}, {0, 7, 1}, {0, 8, 0}, {0, 14, 0}, {0, 15, NONE},
            {0, Integer.MAX_VALUE, NONE}, {1, 2, NONE}, {1, 3, 1}, {1, 12, 1}, {1, 13, 3}, {1, 23, 3}, {1, 24, 2},
            {1, 32, 2}, {1, 33, NONE}};
        for (int[] one : due) {
            Check.due("18: told(" + one[0] + ", " + one[1] + ")", x.told(one[0], one[1]), one[2]);
        }
        Check.due("18: told(0, -1)", x.told(0, -1), BAD_VALUE);
        Check.due("18: told(2, -1)", x.told(2, -1), NO_SUCH);
        Check.due("18: told(-1, 0)", x.told(-1, 0), NO_SUCH);
        x.close(0, true);
        x.close(1, true);
        Check.due("18: told(0, 1) without a trail", x.told(0, 1), NONE);
    }

    private static void count() {
        TrailTeams x = twoTeams();
        x.close(7, true);
        x.put(Check.number("abc"));
        int[] due = {10, 200, 2, 2, 7, 1, 33, 3, 1, 385 + 557, 5, 3, 5};
        for (int what = 0; what <= 12; what++) {
            Check.due("19: count(" + what + ")", x.count(what), due[what]);
        }
        Check.due("19: count(13)", x.count(13), BAD_VALUE);
        Check.due("19: count(-1)", x.count(-1), BAD_VALUE);
        for (int place = 0; place < 4; place++) {
            x.close(place, true);
        }
        int[] idle = {3, 0, 0, -4, 0};
        Check.due("19: count(6) without trails", x.count(6), 3);
        Check.due("19: count(7) without trails", x.count(7), 0);
        Check.due("19: count(8) without trails", x.count(8), 0);
        Check.due("19: count(9) without trails", x.count(9), idle[3]);
        Check.due("19: count(10) without trails", x.count(10), 0);
        Check.due("19: count(12) at its most", x.count(12), 6);
    }

    private static void nothingChanges() {
        TrailTeams x = twoTeams();
        x.put(Check.number("c>"));
        String before = Check.picture(x);
        x.freeStart(1);
        x.bestExchange(1, 0);
        x.worstPlace(0);
        x.ifTurned(1, 1);
        x.where(1, 5);
        x.told(1, 5);
        Check.same("14 to 23: nothing changes", Check.picture(x), before);
    }
}
