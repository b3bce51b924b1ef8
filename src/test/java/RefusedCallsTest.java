import java.util.Arrays;
import java.util.List;

/**
 * "A method that fails returns one of the error codes ..; it names its errors in the order in which they are checked,
 * and the first one that applies is returned. A call that returns an error changes nothing." Each error of each call,
 * with arguments just beyond their ranges and far beyond them, in states with nothing, with much, and with all.
 */
public final class RefusedCallsTest {
    private static final int NO_SUCH = -100001;
    private static final int BAD_VALUE = -100002;
    private static final int BAD_TEXT = -100003;
    private static final int TOO_MANY = -100004;
    private static final int NOT_POSSIBLE = -100005;
    private static final int NONE = -100006;

    private static final List<Twins> ALL = Twins.ofAllScenes();
    private static final Twins NOTHING = ALL.get(0);
    private static final Twins BUSY = ALL.get(1);
    private static final Twins FULL = ALL.get(2);
    private static final Twins CLOSED = ALL.get(3);

    public static void main(String[] args) {
        theScenesDiffer();
        set();
        place();
        close();
        team();
        route();
        leave();
        start();
        hint();
        lose();
        turn();
        exchange();
        visit();
        teamOf();
        placeOf();
        whereAndTold();
        count();
        freeStart();
        bestExchange();
        worstPlace();
        ifTurned();
        put();
        undo();
        slots();
        Check.end("RefusedCallsTest");
    }

    /** Numbers out of a range: the next ones, the farthest ones, and some whose low bits would be in it. */
    private static int[] beyond(int least, int most) {
        int[] numbers = {least - 1, most + 1, least - 2, most + 2, most + 256, least - 256, least + 65536,
            Integer.MIN_VALUE, Integer.MIN_VALUE + most, Integer.MAX_VALUE};
        return Arrays.stream(numbers).filter(number -> number < least || number > most).toArray();
    }

    /** The probes can tell these states from others that differ in a hidden thing alone. */
    private static void theScenesDiffer() {
        TrailTeams x = Scenes.busy();
        Check.says("the busy scene");
        Check.due("teams", x.count(3), 3);
        Check.due("a full history", x.count(12), 6);
        Check.due("a route on the pad", x.fault(), NONE);
        Check.due("nothing in slot 1", x.restore(1), NOT_POSSIBLE);
        Check.due("slot 0", x.restore(0), 2);
        x = Scenes.full();
        Check.says("the full scene");
        Check.due("teams", x.count(3), 6);
        Check.due("the first five meet", x.count(5), 10);
        Check.due("the length of the pad", x.count(11), 20);
        Check.due("its fault", x.fault(), 15);
        x = Scenes.closed();
        Check.says("the closed scene");
        Check.due("open places", x.count(4), 0);
        Check.due("visits", x.count(10), 0);
        Check.due("a route on the pad", x.fault(), NONE);
    }

    private static void set() {
        Check.says("2: BAD_VALUE if there is no such setting, or value is out of its range");
        int[][] ranges = {{0, 50}, {0, 500}, {1, 5}};
        for (Twins twins : ALL) {
            twins.unchanged("set", x -> {
                for (int setting : beyond(0, 2)) {
                    Check.due("set(" + setting + ", 1)", x.set(setting, 1), BAD_VALUE);
                }
                for (int setting = 0; setting <= 2; setting++) {
                    for (int value : beyond(ranges[setting][0], ranges[setting][1])) {
                        Check.due("set(" + setting + ", " + value + ")", x.set(setting, value), BAD_VALUE);
                    }
                }
            });
        }
    }

    private static void place() {
        for (Twins twins : ALL) {
            Check.says("3: NO_SUCH if there is no such place");
            twins.unchanged("place", x -> {
                for (int place : beyond(0, 7)) {
                    Check.due("place(" + place + ", 1, 1, 1)", x.place(place, 1, 1, 1), NO_SUCH);
                    Check.due("place(" + place + ", 21, -1, 16)", x.place(place, 21, -1, 16), NO_SUCH);
                }
            });
            Check.says("3: BAD_VALUE if an argument is out of range (x: 0 to 20, y: 0 to 20, look: 1 to 15)");
            twins.unchanged("place", x -> {
                for (int far : beyond(0, 20)) {
                    Check.due("place(0, " + far + ", 1, 1)", x.place(0, far, 1, 1), BAD_VALUE);
                    Check.due("place(7, 1, " + far + ", 1)", x.place(7, 1, far, 1), BAD_VALUE);
                }
                for (int look : beyond(1, 15)) {
                    Check.due("place(3, 1, 1, " + look + ")", x.place(3, 1, 1, look), BAD_VALUE);
                }
            });
        }
    }

    private static void close() {
        for (Twins twins : ALL) {
            Check.says("4: NO_SUCH if there is no such place");
            twins.unchanged("close", x -> {
                for (int place : beyond(0, 7)) {
                    Check.due("close(" + place + ", true)", x.close(place, true), NO_SUCH);
                    Check.due("close(" + place + ", false)", x.close(place, false), NO_SUCH);
                }
            });
            Check.says("4: NOT_POSSIBLE if it is so already");
            twins.unchanged("close", x -> {
                for (int place = 0; place <= 7; place++) {
                    boolean isClosed = x.placeOf(place, 3) == 0;
                    Check.due("close(" + place + ", " + isClosed + ")", x.close(place, isClosed), NOT_POSSIBLE);
                }
            });
        }
    }

    private static void team() {
        Check.says("5: BAD_VALUE if start is out of range (0 to 200), ahead of BAD_TEXT and TOO_MANY");
        for (Twins twins : ALL) {
            twins.unchanged("team", x -> {
                for (int start : beyond(0, 200)) {
                    Check.due("team(" + start + ")", x.team(start), BAD_VALUE);
                }
            });
        }
        Check.says("5: BAD_TEXT if the pad has a fault");
        NOTHING.unchanged("team", x -> Check.due("team(0) with an empty pad", x.team(0), BAD_TEXT));
        Check.says("5: BAD_TEXT if the pad has a fault, ahead of TOO_MANY if there are 6 teams");
        FULL.unchanged("team", x -> {
            Check.due("team(0)", x.team(0), BAD_TEXT);
            Check.due("team(200)", x.team(200), BAD_TEXT);
        });
        Check.says("5: TOO_MANY if there are 6 teams");
        CLOSED.unchanged("team", x -> {
            Check.due("team(0)", x.team(0), TOO_MANY);
            Check.due("team(200)", x.team(200), TOO_MANY);
        });
    }

    private static void route() {
        Check.says("6: NO_SUCH if there is no such team, ahead of BAD_TEXT");
        for (Twins twins : ALL) {
            int[] strangers = beyond(0, twins.teams() - 1);
            twins.unchanged("route", x -> {
                for (int team : strangers) {
                    Check.due("route(" + team + ")", x.route(team), NO_SUCH);
                }
            });
        }
        Check.says("6: BAD_TEXT if the pad has a fault");
        FULL.unchanged("route", x -> {
            for (int team = 0; team < 6; team++) {
                Check.due("route(" + team + ")", x.route(team), BAD_TEXT);
            }
        });
    }

    private static void leave() {
        Check.says("7: NO_SUCH if there is no such team");
        for (Twins twins : ALL) {
            int[] strangers = beyond(0, twins.teams() - 1);
            twins.unchanged("leave", x -> {
                for (int team : strangers) {
                    Check.due("leave(" + team + ")", x.leave(team), NO_SUCH);
                }
            });
        }
    }

    private static void start() {
        for (Twins twins : ALL) {
            int teams = twins.teams();
            Check.says("8: NO_SUCH if there is no such team, ahead of BAD_VALUE");
            twins.unchanged("start", x -> {
                for (int team : beyond(0, teams - 1)) {
                    Check.due("start(" + team + ", 3)", x.start(team, 3), NO_SUCH);
                    Check.due("start(" + team + ", -1)", x.start(team, -1), NO_SUCH);
                    Check.due("start(" + team + ", 201)", x.start(team, 201), NO_SUCH);
                }
            });
            Check.says("8: BAD_VALUE if minute is out of range (0 to 200)");
            twins.unchanged("start", x -> {
                for (int team = 0; team < teams; team++) {
                    for (int minute : beyond(0, 200)) {
                        Check.due("start(" + team + ", " + minute + ")", x.start(team, minute), BAD_VALUE);
                    }
                }
            });
        }
    }

    private static void hint() {
        for (Twins twins : ALL) {
            int teams = twins.teams();
            Check.says("9: NO_SUCH if there is no such team or place");
            twins.unchanged("hint", x -> {
                for (int team : beyond(0, teams - 1)) {
                    Check.due("hint(" + team + ", 0, true)", x.hint(team, 0, true), NO_SUCH);
                    Check.due("hint(" + team + ", 7, false)", x.hint(team, 7, false), NO_SUCH);
                    Check.due("hint(" + team + ", 8, false)", x.hint(team, 8, false), NO_SUCH);
                }
                for (int place : beyond(0, 7)) {
                    Check.due("hint(0, " + place + ", true)", x.hint(0, place, true), NO_SUCH);
                    Check.due("hint(0, " + place + ", false)", x.hint(0, place, false), NO_SUCH);
                }
            });
        }
        Check.says("9: NOT_POSSIBLE if it is so already");
        FULL.unchanged("hint", x -> {
            for (int place = 0; place <= 7; place++) {
                Check.due("hint(5, " + place + ", false)", x.hint(5, place, false), NOT_POSSIBLE);
            }
        });
        BUSY.unchanged("hint", x -> {
            Check.due("hint(0, 4, true) at a closed place", x.hint(0, 4, true), NOT_POSSIBLE);
            Check.due("hint(2, 0, true) not in the route", x.hint(2, 0, true), NOT_POSSIBLE);
            Check.due("hint(1, 4, false) that another team takes", x.hint(1, 4, false), NOT_POSSIBLE);
            Check.due("hint(0, 3, false) at the place ahead", x.hint(0, 3, false), NOT_POSSIBLE);
            Check.due("hint(0, 5, false) at the place behind", x.hint(0, 5, false), NOT_POSSIBLE);
        });
    }

    private static void lose() {
        Check.says("10: NO_SUCH if there is no such team, or place (place: a place, or -1)");
        for (Twins twins : ALL) {
            int teams = twins.teams();
            twins.unchanged("lose", x -> {
                for (int team : beyond(0, teams - 1)) {
                    Check.due("lose(" + team + ", 0)", x.lose(team, 0), NO_SUCH);
                    Check.due("lose(" + team + ", -1)", x.lose(team, -1), NO_SUCH);
                    Check.due("lose(" + team + ", 8)", x.lose(team, 8), NO_SUCH);
                }
                for (int place : beyond(-1, 7)) {
                    Check.due("lose(0, " + place + ")", x.lose(0, place), NO_SUCH);
                }
            });
        }
    }

    private static void turn() {
        for (Twins twins : ALL) {
            int teams = twins.teams();
            Check.says("11: NO_SUCH if there is no such team, ahead of BAD_VALUE");
            twins.unchanged("turn", x -> {
                for (int team : beyond(0, teams - 1)) {
                    Check.due("turn(" + team + ", 1)", x.turn(team, 1), NO_SUCH);
                    Check.due("turn(" + team + ", 0)", x.turn(team, 0), NO_SUCH);
                    Check.due("turn(" + team + ", 8)", x.turn(team, 8), NO_SUCH);
                }
            });
            Check.says("11: BAD_VALUE if by is out of range (1 to 7), or not below the number of places of the route");
            for (int team = 0; team < teams; team++) {
                int asked = team;
                int[] bad = beyond(1, twins.places(team) - 1);
                twins.unchanged("turn", x -> {
                    for (int by : bad) {
                        Check.due("turn(" + asked + ", " + by + ")", x.turn(asked, by), BAD_VALUE);
                    }
                });
            }
        }
    }

    private static void exchange() {
        for (Twins twins : ALL) {
            int teams = twins.teams();
            Check.says("12: NO_SUCH if there is no such team");
            twins.unchanged("exchange", x -> {
                for (int team : beyond(0, teams - 1)) {
                    Check.due("exchange(" + team + ", 0, 1)", x.exchange(team, 0, 1), NO_SUCH);
                    Check.due("exchange(" + team + ", 0, 0)", x.exchange(team, 0, 0), NO_SUCH);
                }
            });
            for (int team = 0; team < teams; team++) {
                exchangeOf(twins, team, twins.places(team));
            }
        }
    }

    private static void exchangeOf(Twins twins, int team, int places) {
        Check.says("12: NO_SUCH if there is no such number, ahead of BAD_VALUE");
        twins.unchanged("exchange", x -> {
            for (int number : beyond(0, places - 1)) {
                String call = "exchange(" + team + ", " + number + ", ";
                Check.due(call + "0)", x.exchange(team, number, 0), NO_SUCH);
                Check.due(call + number + ")", x.exchange(team, number, number), NO_SUCH);
                call = "exchange(" + team + ", " + (places - 1) + ", " + number + ")";
                Check.due(call, x.exchange(team, places - 1, number), NO_SUCH);
            }
        });
        Check.says("12: BAD_VALUE if both are the same");
        twins.unchanged("exchange", x -> {
            for (int number = 0; number < places; number++) {
                String call = "exchange(" + team + ", " + number + ", " + number + ")";
                Check.due(call, x.exchange(team, number, number), BAD_VALUE);
            }
        });
    }

    private static void visit() {
        for (Twins twins : ALL) {
            int teams = twins.teams();
            Check.says("14: NO_SUCH if there is no such team, ahead of BAD_VALUE and NONE");
            twins.unchanged("visit", x -> {
                for (int team : beyond(0, teams - 1)) {
                    Check.due("visit(" + team + ", 0, 0)", x.visit(team, 0, 0), NO_SUCH);
                    Check.due("visit(" + team + ", 8, 5)", x.visit(team, 8, 5), NO_SUCH);
                }
            });
            for (int team = 0; team < teams; team++) {
                visitOf(twins, team, twins.trail(team));
            }
        }
    }

    private static void visitOf(Twins twins, int team, int trail) {
        Check.says("14: BAD_VALUE if what is out of range (0 to 4), ahead of NONE");
        twins.unchanged("visit", x -> {
            for (int what : beyond(0, 4)) {
                String call = "visit(" + team + ", ";
                Check.due(call + "0, " + what + ")", x.visit(team, 0, what), BAD_VALUE);
                Check.due(call + trail + ", " + what + ")", x.visit(team, trail, what), BAD_VALUE);
                Check.due(call + "-1, " + what + ")", x.visit(team, -1, what), BAD_VALUE);
            }
        });
        Check.says("14: NONE if there is no such visit");
        twins.unchanged("visit", x -> {
            for (int visit : beyond(0, trail - 1)) {
                for (int what = 0; what <= 4; what++) {
                    String call = "visit(" + team + ", " + visit + ", " + what + ")";
                    Check.due(call, x.visit(team, visit, what), NONE);
                }
            }
        });
    }

    private static void teamOf() {
        for (Twins twins : ALL) {
            int teams = twins.teams();
            Check.says("15: NO_SUCH if there is no such team, ahead of BAD_VALUE");
            twins.unchanged("teamOf", x -> {
                for (int team : beyond(0, teams - 1)) {
                    Check.due("teamOf(" + team + ", 0)", x.teamOf(team, 0), NO_SUCH);
                    Check.due("teamOf(" + team + ", 9)", x.teamOf(team, 9), NO_SUCH);
                    Check.due("teamOf(" + team + ", 10)", x.teamOf(team, 10), NO_SUCH);
                }
            });
            Check.says("15: BAD_VALUE if what is out of range (0 to 9)");
            twins.unchanged("teamOf", x -> {
                for (int team = 0; team < teams; team++) {
                    for (int what : beyond(0, 9)) {
                        Check.due("teamOf(" + team + ", " + what + ")", x.teamOf(team, what), BAD_VALUE);
                    }
                }
            });
        }
    }

    private static void placeOf() {
        for (Twins twins : ALL) {
            Check.says("16: NO_SUCH if there is no such place, ahead of BAD_VALUE");
            twins.unchanged("placeOf", x -> {
                for (int place : beyond(0, 7)) {
                    Check.due("placeOf(" + place + ", 0)", x.placeOf(place, 0), NO_SUCH);
                    Check.due("placeOf(" + place + ", 7)", x.placeOf(place, 7), NO_SUCH);
                    Check.due("placeOf(" + place + ", 8)", x.placeOf(place, 8), NO_SUCH);
                }
            });
            Check.says("16: BAD_VALUE if what is out of range (0 to 7)");
            twins.unchanged("placeOf", x -> {
                for (int place = 0; place <= 7; place++) {
                    for (int what : beyond(0, 7)) {
                        Check.due("placeOf(" + place + ", " + what + ")", x.placeOf(place, what), BAD_VALUE);
                    }
                }
            });
        }
    }

    private static void whereAndTold() {
        int[] below = {-1, -2, -256, Integer.MIN_VALUE, Integer.MIN_VALUE + 1};
        for (Twins twins : ALL) {
            int teams = twins.teams();
            Check.says("17, 18: NO_SUCH if there is no such team, ahead of BAD_VALUE and NONE");
            twins.unchanged("where, told", x -> {
                for (int team : beyond(0, teams - 1)) {
                    Check.due("where(" + team + ", 0)", x.where(team, 0), NO_SUCH);
                    Check.due("where(" + team + ", -1)", x.where(team, -1), NO_SUCH);
                    Check.due("told(" + team + ", 0)", x.told(team, 0), NO_SUCH);
                    Check.due("told(" + team + ", -1)", x.told(team, -1), NO_SUCH);
                }
            });
            Check.says("17, 18: BAD_VALUE if minute is below 0, ahead of NONE");
            twins.unchanged("where, told", x -> {
                for (int team = 0; team < teams; team++) {
                    for (int minute : below) {
                        Check.due("where(" + team + ", " + minute + ")", x.where(team, minute), BAD_VALUE);
                        Check.due("told(" + team + ", " + minute + ")", x.told(team, minute), BAD_VALUE);
                    }
                }
            });
        }
    }

    private static void count() {
        Check.says("19: BAD_VALUE if what is out of range (0 to 12)");
        for (Twins twins : ALL) {
            twins.unchanged("count", x -> {
                for (int what : beyond(0, 12)) {
                    Check.due("count(" + what + ")", x.count(what), BAD_VALUE);
                }
            });
        }
    }

    private static void freeStart() {
        Check.says("20: NO_SUCH if there is no such team");
        for (Twins twins : ALL) {
            int[] strangers = beyond(0, twins.teams() - 1);
            twins.unchanged("freeStart", x -> {
                for (int team : strangers) {
                    Check.due("freeStart(" + team + ")", x.freeStart(team), NO_SUCH);
                }
            });
        }
    }

    private static void bestExchange() {
        for (Twins twins : ALL) {
            int teams = twins.teams();
            Check.says("21: NO_SUCH if there is no such team, ahead of BAD_VALUE");
            twins.unchanged("bestExchange", x -> {
                for (int team : beyond(0, teams - 1)) {
                    Check.due("bestExchange(" + team + ", 0)", x.bestExchange(team, 0), NO_SUCH);
                    Check.due("bestExchange(" + team + ", 2)", x.bestExchange(team, 2), NO_SUCH);
                    Check.due("bestExchange(" + team + ", 3)", x.bestExchange(team, 3), NO_SUCH);
                }
            });
            Check.says("21: BAD_VALUE if what is out of range (0 to 2), ahead of NONE");
            twins.unchanged("bestExchange", x -> {
                for (int team = 0; team < teams; team++) {
                    for (int what : beyond(0, 2)) {
                        Check.due("bestExchange(" + team + ", " + what + ")", x.bestExchange(team, what), BAD_VALUE);
                    }
                }
            });
        }
    }

    private static void worstPlace() {
        Check.says("22: BAD_VALUE if what is neither 0 nor 1, ahead of NONE");
        for (Twins twins : ALL) {
            twins.unchanged("worstPlace", x -> {
                for (int what : beyond(0, 1)) {
                    Check.due("worstPlace(" + what + ")", x.worstPlace(what), BAD_VALUE);
                }
            });
        }
    }

    private static void ifTurned() {
        for (Twins twins : ALL) {
            int teams = twins.teams();
            Check.says("23: NO_SUCH if there is no such team, ahead of BAD_VALUE");
            twins.unchanged("ifTurned", x -> {
                for (int team : beyond(0, teams - 1)) {
                    Check.due("ifTurned(" + team + ", 0)", x.ifTurned(team, 0), NO_SUCH);
                    Check.due("ifTurned(" + team + ", 1)", x.ifTurned(team, 1), NO_SUCH);
                    Check.due("ifTurned(" + team + ", 8)", x.ifTurned(team, 8), NO_SUCH);
                }
            });
            Check.says("23: BAD_VALUE if by is out of range, or above 0 and not below the number of places of the route");
            for (int team = 0; team < teams; team++) {
                int asked = team;
                int[] bad = beyond(0, twins.places(team) - 1);
                twins.unchanged("ifTurned", x -> {
                    for (int by : bad) {
                        Check.due("ifTurned(" + asked + ", " + by + ")", x.ifTurned(asked, by), BAD_VALUE);
                    }
                });
            }
        }
    }

    private static void put() {
        Check.says("24: BAD_VALUE if there is no character, a code is not 33 to 126, or a bit above .. is not 0");
        long[] bad = {0, 32, 127, 128, 255, 256, 97L << 8, 97L << 16 | 97, Long.MIN_VALUE | 97, Long.MIN_VALUE,
            Long.MAX_VALUE, -1, 1L << 32, 1L << 32 | 97};
        for (Twins twins : ALL) {
            twins.unchanged("put", x -> {
                for (long characters : bad) {
                    Check.due("put(" + characters + ")", x.put(characters), BAD_VALUE);
                }
            });
        }
        Check.says("24: TOO_MANY if the pad would be longer than 20");
        FULL.unchanged("put", x -> {
            Check.due("put of one behind 20", x.put(97), TOO_MANY);
            Check.due("put of eight behind 20", x.put(Check.number(">a>b>c>d")), TOO_MANY);
        });
    }

    private static void undo() {
        Check.says("27: NOT_POSSIBLE if there is none");
        NOTHING.unchanged("undo", x -> {
            Check.due("undo()", x.undo(), NOT_POSSIBLE);
            Check.due("undo() again", x.undo(), NOT_POSSIBLE);
        });
    }

    private static void slots() {
        Check.says("28, 29: BAD_VALUE if there is no such slot (0 or 1)");
        for (Twins twins : ALL) {
            twins.unchanged("save, restore", x -> {
                for (int slot : beyond(0, 1)) {
                    Check.due("save(" + slot + ")", x.save(slot), BAD_VALUE);
                    Check.due("restore(" + slot + ")", x.restore(slot), BAD_VALUE);
                }
            });
        }
        Check.says("29: NOT_POSSIBLE if nothing was saved in it");
        NOTHING.unchanged("restore", x -> {
            Check.due("restore(0)", x.restore(0), NOT_POSSIBLE);
            Check.due("restore(1)", x.restore(1), NOT_POSSIBLE);
        });
        BUSY.unchanged("restore", x -> Check.due("restore(1), with slot 0 in use", x.restore(1), NOT_POSSIBLE));
        CLOSED.unchanged("restore", x -> Check.due("restore(0), with slot 1 in use", x.restore(0), NOT_POSSIBLE));
    }
}
