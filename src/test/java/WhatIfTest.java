/** Promises 20 to 23: what if. */
public final class WhatIfTest {
    private static final int NO_SUCH = -100001;
    private static final int BAD_VALUE = -100002;
    private static final int NONE = -100006;

    public static void main(String[] args) {
        freeStart();
        othersAreHeldUpOtherwise();
        noFreeStart();
        bestExchange();
        bestExchangeAmongOthers();
        worstPlace();
        ifTurned();
        Check.end("WhatIfTest");
    }

    private static void freeStart() {
        TrailTeams x = new TrailTeams();
        Check.due("20: freeStart(0) without teams", x.freeStart(0), NO_SUCH);
        Check.team(x, "a", 3);
        Check.due("20: freeStart(0) alone", x.freeStart(0), 0);
        Check.team(x, "a", 9);
        Check.team(x, "b", 0);
        Check.due("20: freeStart(0)", x.freeStart(0), 0);
        Check.due("20: freeStart(1)", x.freeStart(1), 9);
        x.start(0, 200);
        x.start(1, 195);
        Check.due("20: freeStart(0) ahead of it", x.freeStart(0), 0);
        x.close(0, true);
        x.start(1, 7);
        Check.due("20: freeStart(1) without a trail", x.freeStart(1), 0);
        Check.due("20: its start stays", x.teamOf(1, 0), 7);
        Check.due("20: freeStart(3)", x.freeStart(3), NO_SUCH);
        Check.due("20: freeStart(-1)", x.freeStart(-1), NO_SUCH);
    }

    /** At a free start of team 0 it does not hold up team 1 at a, which has looked at 5 then, not at 10. */
    private static void othersAreHeldUpOtherwise() {
        TrailTeams x = new TrailTeams();
        Check.gather(x, 2, 5);
        Check.team(x, "a>b", 0);
        Check.team(x, "a", 0);
        Check.due("20: team 1 is held up now", x.teamOf(1, 1), 10);
        Check.due("20: the least start behind 1", x.freeStart(0), 6);
        Check.due("20: the least start of 1", x.freeStart(1), 6);
        Check.team(x, "b", 10);
        Check.due("20: it meets 0 now", x.teamOf(2, 9), 1);
        Check.due("20: the least start behind 0 at b", x.freeStart(2), 11);
        Check.due("20: the least start behind 1 and 2", x.freeStart(0), 11);
    }

    private static void noFreeStart() {
        TrailTeams x = new TrailTeams();
        Check.gather(x, 8, 15);
        Check.team(x, "a>b>c>d>e>f>g>h", 0);
        Check.team(x, "h>g>f>e>d>c>b>a", 121);
        Check.team(x, "a>b>c>d>e>f>g>h", 0);
        Check.due("20: freeStart(2)", x.freeStart(2), NONE);
        x.leave(1);
        Check.due("20: freeStart(1)", x.freeStart(1), 16);
        x.wipe();
        Check.due("20: freeStart(0)", x.freeStart(0), 16);
        x.start(0, 15);
        Check.due("20: freeStart(1) behind it", x.freeStart(1), 31);
        x.start(0, 16);
        Check.due("20: freeStart(1) ahead of it", x.freeStart(1), 0);
        Check.team(x, "h>g>f>e>d>c>b>a", 0);
        x.start(0, 79);
        x.leave(1);
        Check.due("20: freeStart(1) at the latest", x.freeStart(1), 200);
        x.start(0, 80);
        Check.due("20: freeStart(1) would be 201", x.freeStart(1), NONE);
    }

    private static void bestExchange() {
        TrailTeams x = new TrailTeams();
        Check.due("21: bestExchange(0, 3) without teams", x.bestExchange(0, 3), NO_SUCH);
        Check.team(x, "c>a>b", 0);
        Check.due("21: first number", x.bestExchange(0, 0), 0);
        Check.due("21: second number", x.bestExchange(0, 1), 1);
        Check.due("21: end", x.bestExchange(0, 2), 4 + 2 + 15);
        x.exchange(0, 0, 1);
        x.exchange(0, 1, 2);
        Check.due("21: now", x.teamOf(0, 1), 4 + 15);
        Check.due("21: first number, later than now", x.bestExchange(0, 0), 1);
        Check.due("21: second number, later than now", x.bestExchange(0, 1), 2);
        Check.due("21: end, later than now", x.bestExchange(0, 2), 4 + 2 + 15);
        Check.due("21: bestExchange(0, 3)", x.bestExchange(0, 3), BAD_VALUE);
        Check.due("21: bestExchange(0, -1)", x.bestExchange(0, -1), BAD_VALUE);
        Check.due("21: bestExchange(1, 0)", x.bestExchange(1, 0), NO_SUCH);
        Check.due("21: bestExchange(-1, 3)", x.bestExchange(-1, 3), NO_SUCH);
        Check.team(x, "h", 0);
        Check.due("21: one place", x.bestExchange(1, 0), NONE);
        Check.due("21: one place, the second number", x.bestExchange(1, 1), NONE);
        Check.due("21: one place, the end", x.bestExchange(1, 2), NONE);
        Check.due("21: one place, a bad what", x.bestExchange(1, 3), BAD_VALUE);
        Check.gather(x, 8, 5);
        Check.team(x, "d>c>b>a", 7);
        Check.due("21: of several the lowest first number", x.bestExchange(2, 0), 0);
        Check.due("21: of these the lowest second one", x.bestExchange(2, 1), 1);
    }

    private static void bestExchangeAmongOthers() {
        TrailTeams x = new TrailTeams();
        Check.gather(x, 3, 5);
        Check.team(x, "a", 0);
        Check.team(x, "a>b>c", 0);
        Check.due("21: with a queue now", x.teamOf(1, 1), 20);
        Check.due("21: end without a queue", x.bestExchange(1, 2), 15);
        Check.due("21: the first of them", x.bestExchange(1, 1), 1);
        x.close(1, true);
        Check.due("21: with a closed place", x.bestExchange(1, 2), 10);
        Check.due("21: to the end of the trail, first number", x.bestExchange(1, 0), 0);
        Check.due("21: to the end of the trail, second number", x.bestExchange(1, 1), 2);
        x.close(0, true);
        x.close(2, true);
        Check.due("21: without a trail", x.bestExchange(1, 0), 0);
        Check.due("21: without a trail, second number", x.bestExchange(1, 1), 1);
        Check.due("21: without a trail, end", x.bestExchange(1, 2), 0);
        Check.due("21: the route stays", x.teamOf(1, 2), 3);
    }

    private static void worstPlace() {
        TrailTeams x = new TrailTeams();
        Check.due("22: worstPlace(0) without teams", x.worstPlace(0), 0);
        Check.due("22: worstPlace(1) without teams", x.worstPlace(1), 0);
        Check.team(x, "b>d", 0);
        Check.team(x, "b>d", 4);
        Check.team(x, "d", 8);
        Check.due("22: now", x.count(7), 1 + 2 + 5);
        Check.due("22: worstPlace(0)", x.worstPlace(0), 3);
        Check.due("22: worstPlace(1)", x.worstPlace(1), 1);
        Check.due("22: all stay open", x.count(4), 8);
        x.close(3, true);
        Check.due("22: a closed place is not told", x.worstPlace(0), 1);
        Check.due("22: without both", x.worstPlace(1), 0);
        x.close(1, true);
        Check.due("22: of several the lowest", x.worstPlace(0), 0);
        x.close(0, true);
        Check.due("22: of the open ones", x.worstPlace(0), 2);
        Check.due("22: worstPlace(2)", x.worstPlace(2), BAD_VALUE);
        Check.due("22: worstPlace(-1)", x.worstPlace(-1), BAD_VALUE);
        for (int place = 0; place < 8; place++) {
            x.close(place, true);
        }
        Check.due("22: no place is open", x.worstPlace(0), NONE);
        Check.due("22: no place is open, minutes", x.worstPlace(1), NONE);
        Check.due("22: no place is open, a bad what", x.worstPlace(2), BAD_VALUE);
    }

    private static void ifTurned() {
        TrailTeams x = new TrailTeams();
        Check.due("23: ifTurned(0, 8) without teams", x.ifTurned(0, 8), NO_SUCH);
        Check.gather(x, 8, 5);
        Check.team(x, "a>b>c", 0);
        Check.team(x, "a", 0);
        Check.team(x, "d>c", 2);
        Check.team(x, "d", 3);
        Check.due("23: now", x.count(5), 3);
        Check.due("23: ifTurned(0, 0)", x.ifTurned(0, 0), 3);
        Check.due("23: ifTurned(0, 1)", x.ifTurned(0, 1), 2);
        Check.due("23: ifTurned(0, 2)", x.ifTurned(0, 2), 2);
        Check.due("23: ifTurned(1, 0) of one place", x.ifTurned(1, 0), 3);
        Check.due("23: the route stays", x.visit(0, 0, 0), 0);
        Check.due("23: ifTurned(0, -1)", x.ifTurned(0, -1), BAD_VALUE);
        Check.due("23: ifTurned(0, 3)", x.ifTurned(0, 3), BAD_VALUE);
        Check.due("23: ifTurned(1, 1)", x.ifTurned(1, 1), BAD_VALUE);
        Check.due("23: ifTurned(0, 8)", x.ifTurned(0, 8), BAD_VALUE);
        Check.due("23: ifTurned(4, 8)", x.ifTurned(4, 8), NO_SUCH);
        Check.due("23: ifTurned(-1, 0)", x.ifTurned(-1, 0), NO_SUCH);
        Check.team(x, "a>b>c>d>e>f>g>h", 200);
        Check.due("23: ifTurned(4, 7)", x.ifTurned(4, 7), 3);
        Check.due("23: ifTurned(4, 8) of eight places", x.ifTurned(4, 8), BAD_VALUE);
    }
}
