import java.util.Arrays;

/** A treasure trail for many teams. ../shared/DOC.md tells, promise by promise, what each call does. */
public final class TrailTeams {
    public static final int NO_SUCH = -100001, BAD_VALUE = -100002, BAD_TEXT = -100003, TOO_MANY = -100004, NOT_POSSIBLE = -100005, NONE = -100006;
    public static final int FEE = 0, PRIZE = 1, LOST = 2;

    private static final int SETTINGS = 3;
    private static final int PLACES = 8;
    private static final int ALL_PLACES = 255;
    private static final int MOST_TEAMS = 6;
    private static final int FARTHEST = 20;
    private static final int LONGEST_LOOK = 15;
    private static final int LATEST_START = 200;
    private static final int PAD_SIZE = 20;
    private static final int HISTORY_SIZE = 6;
    private static final int SLOTS = 2;
    private static final int LEAST_CODE = 33;
    private static final int MOST_CODE = 126;
    private static final int CODES_IN_A_LONG = 8;
    private static final int NOWHERE = -1;
    private static final int NOBODY = -1;

    private static final int[] LEAST_SETTINGS = {0, 0, 1};
    private static final int[] MOST_SETTINGS = {50, 500, 5};
    private static final int[] FIRST_SETTINGS = {10, 200, 2};

    // All rows are made here, once: a call that made some would fill the room of a long run.
    private final State now = new State();
    private final State trial = new State();
    private final Game game = new Game();
    private final Pad pad = new Pad();
    private final History history = new History();
    private final State[] slots = new State[SLOTS];
    private final boolean[] isSaved = new boolean[SLOTS];

    public TrailTeams() {
        for (int slot = 0; slot < SLOTS; slot++) {
            slots[slot] = new State();
        }
    }

    // ---- changes

    public int set(int setting, int value) {
        if (!isFrom(setting, 0, SETTINGS - 1)) {
            return BAD_VALUE;
        }
        if (!isFrom(value, LEAST_SETTINGS[setting], MOST_SETTINGS[setting])) {
            return BAD_VALUE;
        }
        history.record(now);
        int previous = now.settings[setting];
        now.settings[setting] = value;
        return previous;
    }

    public int place(int place, int x, int y, int look) {
        if (!isPlace(place)) {
            return NO_SUCH;
        }
        if (!isFrom(x, 0, FARTHEST) || !isFrom(y, 0, FARTHEST) || !isFrom(look, 1, LONGEST_LOOK)) {
            return BAD_VALUE;
        }
        history.record(now);
        int previous = now.looks[place];
        now.xs[place] = x;
        now.ys[place] = y;
        now.looks[place] = look;
        return previous;
    }

    public int close(int place, boolean isClosed) {
        if (!isPlace(place)) {
            return NO_SUCH;
        }
        if (now.isClosed(place) == isClosed) {
            return NOT_POSSIBLE;
        }
        history.record(now);
        now.closedPlaces = now.closedPlaces ^ 1 << place;
        return now.openPlaces();
    }

    public int team(int start) {
        if (!isFrom(start, 0, LATEST_START)) {
            return BAD_VALUE;
        }
        if (pad.firstFault() != NONE) {
            return BAD_TEXT;
        }
        if (now.teamCount >= MOST_TEAMS) {
            return TOO_MANY;
        }
        history.record(now);
        int number = now.teamCount;
        Team comer = now.teams[number];
        pad.moveTo(comer);
        comer.start = start;
        comer.hints = 0;
        comer.lostBehind = NOWHERE;
        now.teamCount = number + 1;
        return number;
    }

    public int route(int team) {
        if (!isTeam(team)) {
            return NO_SUCH;
        }
        if (pad.firstFault() != NONE) {
            return BAD_TEXT;
        }
        history.record(now);
        pad.moveTo(now.teams[team]);
        return now.trailLength(team);
    }

    public int leave(int team) {
        if (!isTeam(team)) {
            return NO_SUCH;
        }
        history.record(now);
        now.teamCount = now.teamCount - 1;
        for (int i = team; i < now.teamCount; i++) {
            now.teams[i].copyFrom(now.teams[i + 1]);
        }
        return now.teamCount;
    }

    public int start(int team, int minute) {
        if (!isTeam(team)) {
            return NO_SUCH;
        }
        if (!isFrom(minute, 0, LATEST_START)) {
            return BAD_VALUE;
        }
        history.record(now);
        int previous = now.teams[team].start;
        now.teams[team].start = minute;
        return previous;
    }

    public int hint(int team, int place, boolean isTaken) {
        if (!isTeam(team) || !isPlace(place)) {
            return NO_SUCH;
        }
        if (now.teams[team].hasHint(place) == isTaken) {
            return NOT_POSSIBLE;
        }
        history.record(now);
        now.teams[team].hints = now.teams[team].hints ^ 1 << place;
        return endNow(team);
    }

    public int lose(int team, int place) {
        if (!isTeam(team) || place != NOWHERE && !isPlace(place)) {
            return NO_SUCH;
        }
        history.record(now);
        now.teams[team].lostBehind = place;
        return endNow(team);
    }

    public int turn(int team, int by) {
        if (!isTeam(team)) {
            return NO_SUCH;
        }
        if (by < 1 || by >= now.teams[team].length) {
            return BAD_VALUE;
        }
        history.record(now);
        now.teams[team].turnRoute(by);
        return now.teams[team].route[0];
    }

    public int exchange(int team, int one, int other) {
        if (!isTeam(team) || !isInRoute(team, one) || !isInRoute(team, other)) {
            return NO_SUCH;
        }
        if (one == other) {
            return BAD_VALUE;
        }
        history.record(now);
        now.teams[team].exchangePlaces(one, other);
        return endNow(team);
    }

    public int part() {
        history.record(now);
        for (int team = 0; team < now.teamCount; team++) {
            int kept = now.teams[team].start;
            int free = leastFreeStart(now, team, team + 1);
            now.teams[team].start = free == NONE ? kept : free;
        }
        playNow();
        return game.pairs();
    }

    // ---- what there is; nothing changes

    public int visit(int team, int visit, int what) {
        if (!isTeam(team)) {
            return NO_SUCH;
        }
        if (!isFrom(what, 0, 4)) {
            return BAD_VALUE;
        }
        playNow();
        if (!isFrom(visit, 0, game.trailLengths[team] - 1)) {
            return NONE;
        }
        switch (what) {
            case 0: return game.places[team][visit];
            case 1: return game.comes[team][visit];
            case 2: return game.begins[team][visit];
            case 3: return game.ends[team][visit];
            default: return game.walks[team][visit];
        }
    }

    public int teamOf(int team, int what) {
        if (!isTeam(team)) {
            return NO_SUCH;
        }
        playNow();
        switch (what) {
            case 0: return now.teams[team].start;
            case 1: return game.goesOn[team];
            case 2: return now.teams[team].length;
            case 3: return game.trailLengths[team];
            case 4: return game.queueingOf(team);
            case 5: return game.walkingOf(team);
            case 6: return game.pointsOf(team);
            case 7: return game.rankOf(team);
            case 8: return game.hintsOf(team);
            case 9: return game.teamsMetBy(team);
            default: return BAD_VALUE;
        }
    }

    public int placeOf(int place, int what) {
        if (!isPlace(place)) {
            return NO_SUCH;
        }
        playNow();
        switch (what) {
            case 0: return now.xs[place];
            case 1: return now.ys[place];
            case 2: return now.looks[place];
            case 3: return now.isClosed(place) ? 0 : 1;
            case 4: return game.teamsAt(place);
            case 5: return game.queueingAt(place);
            case 6: return game.mostAt(place);
            case 7: return game.pairsAt(place);
            default: return BAD_VALUE;
        }
    }

    public int where(int team, int minute) {
        if (!isTeam(team)) {
            return NO_SUCH;
        }
        if (minute < 0) {
            return BAD_VALUE;
        }
        playNow();
        return game.placeWithTeam(team, minute);
    }

    public int told(int team, int minute) {
        if (!isTeam(team)) {
            return NO_SUCH;
        }
        if (minute < 0) {
            return BAD_VALUE;
        }
        playNow();
        return game.placeToldTo(team, minute);
    }

    public int count(int what) {
        playNow();
        switch (what) {
            case 0:
            case 1:
            case 2: return now.settings[what];
            case 3: return now.teamCount;
            case 4: return now.openPlaces();
            case 5: return game.pairs();
            case 6: return game.lastEnd();
            case 7: return game.queueing();
            case 8: return game.winner();
            case 9: return game.points();
            case 10: return game.visits();
            case 11: return pad.length;
            case 12: return history.length;
            default: return BAD_VALUE;
        }
    }

    // ---- what if; nothing changes

    public int freeStart(int team) {
        if (!isTeam(team)) {
            return NO_SUCH;
        }
        trial.copyFrom(now);
        return leastFreeStart(trial, team, trial.teamCount);
    }

    public int bestExchange(int team, int what) {
        if (!isTeam(team)) {
            return NO_SUCH;
        }
        if (!isFrom(what, 0, 2)) {
            return BAD_VALUE;
        }
        trial.copyFrom(now);
        int length = trial.teams[team].length;
        int bestOne = NONE;
        int bestOther = NONE;
        int bestEnd = NONE;
        for (int one = 0; one < length; one++) {
            for (int other = one + 1; other < length; other++) {
                int end = endIfExchanged(team, one, other);
                if (bestEnd == NONE || end < bestEnd) {
                    bestOne = one;
                    bestOther = other;
                    bestEnd = end;
                }
            }
        }
        return what == 0 ? bestOne : what == 1 ? bestOther : bestEnd;
    }

    public int worstPlace(int what) {
        if (!isFrom(what, 0, 1)) {
            return BAD_VALUE;
        }
        trial.copyFrom(now);
        int worst = NONE;
        int least = NONE;
        for (int place = 0; place < PLACES; place++) {
            if (now.isClosed(place)) {
                continue;
            }
            trial.closedPlaces = now.closedPlaces | 1 << place;
            game.play(trial, trial.teamCount);
            int queueing = game.queueing();
            if (least == NONE || queueing < least) {
                worst = place;
                least = queueing;
            }
        }
        return what == 0 ? worst : least;
    }

    public int ifTurned(int team, int by) {
        if (!isTeam(team)) {
            return NO_SUCH;
        }
        if (by < 0 || by > 0 && by >= now.teams[team].length) {
            return BAD_VALUE;
        }
        trial.copyFrom(now);
        trial.teams[team].turnRoute(by);
        game.play(trial, trial.teamCount);
        return game.pairs();
    }

    // ---- texts

    public int put(long characters) {
        int length = Pad.lengthOf(characters);
        if (length == 0) {
            return BAD_VALUE;
        }
        if (pad.length + length > PAD_SIZE) {
            return TOO_MANY;
        }
        pad.append(characters, length);
        return pad.length;
    }

    public int wipe() {
        int previous = pad.length;
        pad.length = 0;
        return previous;
    }

    public int fault() {
        return pad.firstFault();
    }

    // ---- undo, saving

    public int undo() {
        if (history.length == 0) {
            return NOT_POSSIBLE;
        }
        history.takeBack(now);
        return history.length;
    }

    public int save(int slot) {
        if (!isFrom(slot, 0, SLOTS - 1)) {
            return BAD_VALUE;
        }
        slots[slot].copyFrom(now);
        isSaved[slot] = true;
        return now.teamCount;
    }

    public int restore(int slot) {
        if (!isFrom(slot, 0, SLOTS - 1)) {
            return BAD_VALUE;
        }
        if (!isSaved[slot]) {
            return NOT_POSSIBLE;
        }
        history.record(now);
        now.copyFrom(slots[slot]);
        return now.teamCount;
    }

    // ---- what several calls need

    private static boolean isFrom(int value, int least, int most) {
        return value >= least && value <= most;
    }

    private static boolean isPlace(int place) {
        return isFrom(place, 0, PLACES - 1);
    }

    private boolean isTeam(int team) {
        return isFrom(team, 0, now.teamCount - 1);
    }

    private boolean isInRoute(int team, int number) {
        return isFrom(number, 0, now.teams[team].length - 1);
    }

    private void playNow() {
        game.play(now, now.teamCount);
    }

    private int endNow(int team) {
        playNow();
        return game.goesOn[team];
    }

    /** Leaves the start of the team changed: whoever needs the old one keeps it. */
    private int leastFreeStart(State state, int team, int playing) {
        for (int minute = 0; minute <= LATEST_START; minute++) {
            state.teams[team].start = minute;
            game.play(state, playing);
            if (game.teamsMetBy(team) == 0) {
                return minute;
            }
        }
        return NONE;
    }

    private int endIfExchanged(int team, int one, int other) {
        trial.teams[team].exchangePlaces(one, other);
        game.play(trial, trial.teamCount);
        trial.teams[team].exchangePlaces(one, other);
        return game.goesOn[team];
    }

    private static final class Team {
        final int[] route = new int[PLACES];
        int length;
        int start;
        int hints;
        int lostBehind = NOWHERE;

        void copyFrom(Team other) {
            System.arraycopy(other.route, 0, route, 0, PLACES);
            length = other.length;
            start = other.start;
            hints = other.hints;
            lostBehind = other.lostBehind;
        }

        boolean hasHint(int place) {
            return (hints >> place & 1) == 1;
        }

        void turnRoute(int by) {
            for (int turned = 0; turned < by; turned++) {
                int first = route[0];
                for (int i = 1; i < length; i++) {
                    route[i - 1] = route[i];
                }
                route[length - 1] = first;
            }
        }

        void exchangePlaces(int one, int other) {
            int kept = route[one];
            route[one] = route[other];
            route[other] = kept;
        }
    }

    /** Everything that undo and the slots bring back. */
    private static final class State {
        final int[] settings = new int[SETTINGS];
        final int[] xs = new int[PLACES];
        final int[] ys = new int[PLACES];
        final int[] looks = new int[PLACES];
        int closedPlaces;
        final Team[] teams = new Team[MOST_TEAMS];
        int teamCount;

        State() {
            System.arraycopy(FIRST_SETTINGS, 0, settings, 0, SETTINGS);
            for (int place = 0; place < PLACES; place++) {
                xs[place] = 2 * place;
                looks[place] = 5;
            }
            for (int team = 0; team < MOST_TEAMS; team++) {
                teams[team] = new Team();
            }
        }

        void copyFrom(State other) {
            System.arraycopy(other.settings, 0, settings, 0, SETTINGS);
            System.arraycopy(other.xs, 0, xs, 0, PLACES);
            System.arraycopy(other.ys, 0, ys, 0, PLACES);
            System.arraycopy(other.looks, 0, looks, 0, PLACES);
            closedPlaces = other.closedPlaces;
            for (int team = 0; team < MOST_TEAMS; team++) {
                teams[team].copyFrom(other.teams[team]);
            }
            teamCount = other.teamCount;
        }

        boolean isClosed(int place) {
            return (closedPlaces >> place & 1) == 1;
        }

        int openPlaces() {
            return PLACES - Integer.bitCount(closedPlaces);
        }

        int trailLength(int team) {
            int length = 0;
            for (int i = 0; i < teams[team].length; i++) {
                if (!isClosed(teams[team].route[i])) {
                    length++;
                }
            }
            return length;
        }

        int lookOf(int team, int place) {
            return teams[team].hasHint(place) ? (looks[place] + 1) / 2 : looks[place];
        }
    }

    /** What comes of a state when its first teams play. */
    private static final class Game {
        State state;
        int teamCount;
        final int[] trailLengths = new int[MOST_TEAMS];
        final int[][] places = new int[MOST_TEAMS][PLACES];
        final int[][] walks = new int[MOST_TEAMS][PLACES];
        final int[][] comes = new int[MOST_TEAMS][PLACES];
        final int[][] begins = new int[MOST_TEAMS][PLACES];
        final int[][] ends = new int[MOST_TEAMS][PLACES];
        final int[] visitsMade = new int[MOST_TEAMS];
        // The minute at which a team goes on, at the end of the game the one at which it ends.
        final int[] goesOn = new int[MOST_TEAMS];
        final int[] freeFrom = new int[PLACES];

        void play(State played, int playing) {
            state = played;
            teamCount = playing;
            Arrays.fill(freeFrom, 0);
            for (int team = 0; team < teamCount; team++) {
                layTrail(team);
                visitsMade[team] = 0;
                goesOn[team] = state.teams[team].start;
            }
            for (int made = 0; made < MOST_TEAMS * PLACES; made++) {
                int team = nextToCome();
                if (team == NOBODY) {
                    break;
                }
                makeVisit(team);
            }
        }

        private void layTrail(int team) {
            Team walker = state.teams[team];
            int length = 0;
            int x = 0;
            int y = 0;
            int slowness = 1;
            for (int i = 0; i < walker.length; i++) {
                int place = walker.route[i];
                if (state.isClosed(place)) {
                    continue;
                }
                places[team][length] = place;
                walks[team][length] = slowness * (Math.abs(state.xs[place] - x) + Math.abs(state.ys[place] - y));
                length++;
                x = state.xs[place];
                y = state.ys[place];
                if (place == walker.lostBehind) {
                    slowness = state.settings[LOST];
                }
            }
            trailLengths[team] = length;
        }

        // As each look takes a minute at least, nobody still to be moved can come earlier than this team.
        private int nextToCome() {
            int next = NOBODY;
            int earliest = 0;
            for (int team = 0; team < teamCount; team++) {
                if (visitsMade[team] >= trailLengths[team]) {
                    continue;
                }
                int come = goesOn[team] + walks[team][visitsMade[team]];
                if (next == NOBODY || come < earliest) {
                    next = team;
                    earliest = come;
                }
            }
            return next;
        }

        private void makeVisit(int team) {
            int visit = visitsMade[team];
            int place = places[team][visit];
            int come = goesOn[team] + walks[team][visit];
            int begin = Math.max(come, freeFrom[place]);
            int end = begin + state.lookOf(team, place);
            comes[team][visit] = come;
            begins[team][visit] = begin;
            ends[team][visit] = end;
            freeFrom[place] = end;
            goesOn[team] = end;
            visitsMade[team] = visit + 1;
        }

        // ---- one team

        int visitAt(int team, int place) {
            for (int visit = 0; visit < trailLengths[team]; visit++) {
                if (places[team][visit] == place) {
                    return visit;
                }
            }
            return NOWHERE;
        }

        int queueingOf(int team) {
            int minutes = 0;
            for (int visit = 0; visit < trailLengths[team]; visit++) {
                minutes += begins[team][visit] - comes[team][visit];
            }
            return minutes;
        }

        int walkingOf(int team) {
            int minutes = 0;
            for (int visit = 0; visit < trailLengths[team]; visit++) {
                minutes += walks[team][visit];
            }
            return minutes;
        }

        int hintsOf(int team) {
            int hints = 0;
            for (int visit = 0; visit < trailLengths[team]; visit++) {
                if (state.teams[team].hasHint(places[team][visit])) {
                    hints++;
                }
            }
            return hints;
        }

        int pointsOf(int team) {
            return state.settings[PRIZE] * trailLengths[team] - state.settings[FEE] * hintsOf(team) - goesOn[team];
        }

        int rankOf(int team) {
            int rank = 0;
            for (int other = 0; other < teamCount; other++) {
                if (isAhead(other, team)) {
                    rank++;
                }
            }
            return rank;
        }

        private boolean isAhead(int one, int other) {
            int onePoints = pointsOf(one);
            int otherPoints = pointsOf(other);
            if (onePoints != otherPoints) {
                return onePoints > otherPoints;
            }
            if (goesOn[one] != goesOn[other]) {
                return goesOn[one] < goesOn[other];
            }
            return one < other;
        }

        int placeWithTeam(int team, int minute) {
            for (int visit = 0; visit < trailLengths[team]; visit++) {
                if (isThere(team, visit, minute)) {
                    return places[team][visit];
                }
            }
            return NONE;
        }

        private boolean isThere(int team, int visit, int minute) {
            return comes[team][visit] <= minute && minute < ends[team][visit];
        }

        int placeToldTo(int team, int minute) {
            if (minute < state.teams[team].start) {
                return NONE;
            }
            for (int visit = 0; visit < trailLengths[team]; visit++) {
                if (minute < ends[team][visit]) {
                    return places[team][visit];
                }
            }
            return NONE;
        }

        // ---- meetings

        private boolean meetAt(int one, int other, int place) {
            int oneVisit = visitAt(one, place);
            int otherVisit = visitAt(other, place);
            if (oneVisit == NOWHERE || otherVisit == NOWHERE) {
                return false;
            }
            return comes[one][oneVisit] <= ends[other][otherVisit] && comes[other][otherVisit] <= ends[one][oneVisit];
        }

        private boolean meet(int one, int other) {
            for (int visit = 0; visit < trailLengths[one]; visit++) {
                if (meetAt(one, other, places[one][visit])) {
                    return true;
                }
            }
            return false;
        }

        int teamsMetBy(int team) {
            int met = 0;
            for (int other = 0; other < teamCount; other++) {
                if (other != team && meet(team, other)) {
                    met |= 1 << other;
                }
            }
            return met;
        }

        int pairs() {
            int pairs = 0;
            for (int one = 0; one < teamCount; one++) {
                for (int other = one + 1; other < teamCount; other++) {
                    if (meet(one, other)) {
                        pairs++;
                    }
                }
            }
            return pairs;
        }

        int pairsAt(int place) {
            int pairs = 0;
            for (int one = 0; one < teamCount; one++) {
                for (int other = one + 1; other < teamCount; other++) {
                    if (meetAt(one, other, place)) {
                        pairs++;
                    }
                }
            }
            return pairs;
        }

        // ---- one place

        int teamsAt(int place) {
            int teams = 0;
            for (int team = 0; team < teamCount; team++) {
                if (visitAt(team, place) != NOWHERE) {
                    teams |= 1 << team;
                }
            }
            return teams;
        }

        int queueingAt(int place) {
            int minutes = 0;
            for (int team = 0; team < teamCount; team++) {
                int visit = visitAt(team, place);
                if (visit != NOWHERE) {
                    minutes += begins[team][visit] - comes[team][visit];
                }
            }
            return minutes;
        }

        // There are more teams than before only as one comes, so that these minutes are enough.
        int mostAt(int place) {
            int most = 0;
            for (int team = 0; team < teamCount; team++) {
                int visit = visitAt(team, place);
                if (visit != NOWHERE) {
                    most = Math.max(most, teamsThere(place, comes[team][visit]));
                }
            }
            return most;
        }

        private int teamsThere(int place, int minute) {
            int teams = 0;
            for (int team = 0; team < teamCount; team++) {
                int visit = visitAt(team, place);
                if (visit != NOWHERE && isThere(team, visit, minute)) {
                    teams++;
                }
            }
            return teams;
        }

        // ---- all teams

        int lastEnd() {
            int last = 0;
            for (int team = 0; team < teamCount; team++) {
                last = Math.max(last, goesOn[team]);
            }
            return last;
        }

        int queueing() {
            int minutes = 0;
            for (int team = 0; team < teamCount; team++) {
                minutes += queueingOf(team);
            }
            return minutes;
        }

        int winner() {
            int best = NOBODY;
            for (int team = 0; team < teamCount; team++) {
                if (best == NOBODY || isAhead(team, best)) {
                    best = team;
                }
            }
            return best == NOBODY ? NONE : best;
        }

        int points() {
            int points = 0;
            for (int team = 0; team < teamCount; team++) {
                points += pointsOf(team);
            }
            return points;
        }

        int visits() {
            int visits = 0;
            for (int team = 0; team < teamCount; team++) {
                visits += trailLengths[team];
            }
            return visits;
        }
    }

    private static final class Pad {
        final char[] signs = new char[PAD_SIZE];
        int length;

        /** How many characters the number gives, 0 if it is none that put takes. */
        static int lengthOf(long characters) {
            int length = 0;
            long rest = characters;
            while (rest != 0 && length < CODES_IN_A_LONG) {
                int code = (int) (rest & 255);
                if (!isFrom(code, LEAST_CODE, MOST_CODE)) {
                    return 0;
                }
                rest = rest >>> 8;
                length++;
            }
            return length;
        }

        void append(long characters, int count) {
            for (int left = count - 1; left >= 0; left--) {
                signs[length] = (char) (characters >>> 8 * left & 255);
                length++;
            }
        }

        // Places can stand at even indexes alone, and ">" at odd ones.
        int firstFault() {
            int read = 0;
            for (int i = 0; i < length; i++) {
                if (i % 2 == 1) {
                    if (signs[i] != '>' || read == ALL_PLACES) {
                        return i;
                    }
                    continue;
                }
                int place = signs[i] - 'a';
                if (!isPlace(place) || (read >> place & 1) == 1) {
                    return i;
                }
                read |= 1 << place;
            }
            return length % 2 == 0 ? length : NONE;
        }

        /** Only for a pad without a fault: this has at most 15 characters. */
        void moveTo(Team team) {
            team.length = Math.min((length + 1) / 2, PLACES);
            for (int i = 0; i < team.length; i++) {
                team.route[i] = signs[2 * i] - 'a';
            }
            length = 0;
        }
    }

    private static final class History {
        final State[] states = new State[HISTORY_SIZE];
        int oldest;
        int length;

        History() {
            for (int i = 0; i < HISTORY_SIZE; i++) {
                states[i] = new State();
            }
        }

        void record(State state) {
            if (length == HISTORY_SIZE) {
                oldest = (oldest + 1) % HISTORY_SIZE;
                length--;
            }
            states[(oldest + length) % HISTORY_SIZE].copyFrom(state);
            length++;
        }

        void takeBack(State state) {
            length--;
            state.copyFrom(states[(oldest + length) % HISTORY_SIZE]);
        }
    }
}
