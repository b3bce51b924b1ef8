import java.util.ArrayDeque;
import java.util.ArrayList;
import java.util.BitSet;
import java.util.Collections;
import java.util.Comparator;
import java.util.Deque;
import java.util.List;
import java.util.TreeSet;

/** The document once more, in another way: it lets the minutes pass one by one. ModelTest compares it. */
final class Model {
    static final int NO_SUCH = -100001;
    static final int BAD_VALUE = -100002;
    static final int BAD_TEXT = -100003;
    static final int TOO_MANY = -100004;
    static final int NOT_POSSIBLE = -100005;
    static final int NONE = -100006;

    private static final int[][] RANGES = {{0, 50}, {0, 500}, {1, 5}};

    private static final class Squad {
        List<Integer> route = new ArrayList<>();
        TreeSet<Integer> hints = new TreeSet<>();
        int start;
        int lost = -1;

        Squad copy() {
            Squad copy = new Squad();
            copy.route.addAll(route);
            copy.hints.addAll(hints);
            copy.start = start;
            copy.lost = lost;
            return copy;
        }
    }

    private static final class World {
        int[] settings = {10, 200, 2};
        int[] x = {0, 2, 4, 6, 8, 10, 12, 14};
        int[] y = new int[8];
        int[] look = {5, 5, 5, 5, 5, 5, 5, 5};
        TreeSet<Integer> open = new TreeSet<>(List.of(0, 1, 2, 3, 4, 5, 6, 7));
        List<Squad> squads = new ArrayList<>();

        World copy() {
            World copy = new World();
            copy.settings = settings.clone();
            copy.x = x.clone();
            copy.y = y.clone();
            copy.look = look.clone();
            copy.open = new TreeSet<>(open);
            for (Squad squad : squads) {
                copy.squads.add(squad.copy());
            }
            return copy;
        }

        World with(int squad, List<Integer> route) {
            World copy = copy();
            copy.squads.get(squad).route = route;
            return copy;
        }

        World with(int squad, int start) {
            World copy = copy();
            copy.squads.get(squad).start = start;
            return copy;
        }

        World upTo(int squad) {
            World copy = copy();
            copy.squads = copy.squads.subList(0, squad + 1);
            return copy;
        }
    }

    private static final class Visit {
        int place;
        int walk;
        int come = -1;
        int begin = -1;
        int end = -1;

        BitSet minutes() {
            BitSet minutes = new BitSet();
            minutes.set(come, end + 1);
            return minutes;
        }
    }

    private static final class Played {
        final World world;
        final List<List<Visit>> trails = new ArrayList<>();

        Played(World world) {
            this.world = world;
            for (Squad squad : world.squads) {
                trails.add(trail(squad));
            }
            List<List<Integer>> queues = new ArrayList<>();
            for (int place = 0; place < 8; place++) {
                queues.add(new ArrayList<>());
            }
            for (int minute = 0; !isOver(minute); minute++) {
                pass(minute, queues);
            }
        }

        List<Visit> trail(Squad squad) {
            List<Visit> trail = new ArrayList<>();
            int x = 0;
            int y = 0;
            boolean isLost = false;
            for (int place : squad.route) {
                if (world.open.contains(place)) {
                    Visit visit = new Visit();
                    visit.place = place;
                    visit.walk = Math.abs(world.x[place] - x) + Math.abs(world.y[place] - y);
                    visit.walk *= isLost ? world.settings[2] : 1;
                    isLost |= place == squad.lost;
                    x = world.x[place];
                    y = world.y[place];
                    trail.add(visit);
                }
            }
            return trail;
        }

        boolean isOver(int minute) {
            for (List<Visit> trail : trails) {
                if (!trail.isEmpty() && (trail.get(trail.size() - 1).end < 0 || trail.get(trail.size() - 1).end >= minute)) {
                    return false;
                }
            }
            return true;
        }

        /** Those that have looked go first, then those that come queue up, then free places take the next ones. */
        void pass(int minute, List<List<Integer>> queues) {
            for (List<Integer> queue : queues) {
                queue.removeIf(squad -> visitIn(squad, queues.indexOf(queue)).end == minute);
            }
            for (int squad = 0; squad < trails.size(); squad++) {
                int left = world.squads.get(squad).start;
                for (Visit visit : trails.get(squad)) {
                    if (visit.come < 0 && left >= 0 && left + visit.walk == minute) {
                        visit.come = minute;
                        queues.get(visit.place).add(squad);
                    }
                    left = visit.end;
                }
            }
            for (int place = 0; place < 8; place++) {
                if (!queues.get(place).isEmpty()) {
                    int squad = queues.get(place).get(0);
                    Visit visit = visitIn(squad, place);
                    if (visit.begin < 0) {
                        boolean isHinted = world.squads.get(squad).hints.contains(place);
                        visit.begin = minute;
                        visit.end = minute + (isHinted ? world.look[place] - world.look[place] / 2 : world.look[place]);
                    }
                }
            }
        }

        Visit visitIn(int squad, int place) {
            for (Visit visit : trails.get(squad)) {
                if (visit.place == place) {
                    return visit;
                }
            }
            return null;
        }

        int end(int squad) {
            List<Visit> trail = trails.get(squad);
            return trail.isEmpty() ? world.squads.get(squad).start : trail.get(trail.size() - 1).end;
        }

        int hints(int squad) {
            int hints = 0;
            for (Visit visit : trails.get(squad)) {
                hints += world.squads.get(squad).hints.contains(visit.place) ? 1 : 0;
            }
            return hints;
        }

        int points(int squad) {
            return world.settings[1] * trails.get(squad).size() - world.settings[0] * hints(squad) - end(squad);
        }

        List<Integer> ranking() {
            List<Integer> squads = new ArrayList<>();
            for (int squad = 0; squad < trails.size(); squad++) {
                squads.add(squad);
            }
            squads.sort(Comparator.comparingInt((Integer squad) -> -points(squad)).thenComparingInt(this::end)
                .thenComparingInt(squad -> squad));
            return squads;
        }

        boolean meet(int one, int other, int place) {
            Visit first = visitIn(one, place);
            Visit second = visitIn(other, place);
            return first != null && second != null && first.minutes().intersects(second.minutes());
        }

        boolean meet(int one, int other) {
            for (int place = 0; place < 8; place++) {
                if (meet(one, other, place)) {
                    return true;
                }
            }
            return false;
        }

        int met(int one) {
            int met = 0;
            for (int other = 0; other < trails.size(); other++) {
                met += other != one && meet(one, other) ? 1 << other : 0;
            }
            return met;
        }

        int pairs(int place) {
            int pairs = 0;
            for (int one = 0; one < trails.size(); one++) {
                for (int other = 0; other < one; other++) {
                    pairs += (place < 0 ? meet(one, other) : meet(one, other, place)) ? 1 : 0;
                }
            }
            return pairs;
        }

        int queued(int squad, int place) {
            int minutes = 0;
            for (int one = 0; one < trails.size(); one++) {
                for (Visit visit : trails.get(one)) {
                    if ((squad < 0 || squad == one) && (place < 0 || place == visit.place)) {
                        minutes += visit.begin - visit.come;
                    }
                }
            }
            return minutes;
        }

        int walked(int squad) {
            return trails.get(squad).stream().mapToInt(visit -> visit.walk).sum();
        }

        int most(int place) {
            int[] there = new int[20000];
            int most = 0;
            for (int squad = 0; squad < trails.size(); squad++) {
                Visit visit = visitIn(squad, place);
                for (int minute = visit == null ? 0 : visit.come; visit != null && minute < visit.end; minute++) {
                    there[minute]++;
                    most = Math.max(most, there[minute]);
                }
            }
            return most;
        }

        int comers(int place) {
            int comers = 0;
            for (int squad = 0; squad < trails.size(); squad++) {
                comers += visitIn(squad, place) == null ? 0 : 1 << squad;
            }
            return comers;
        }

        int freeStart(int squad) {
            for (int start = 0; start <= 200; start++) {
                if (new Played(world.with(squad, start)).met(squad) == 0) {
                    return start;
                }
            }
            return NONE;
        }
    }

    private World world = new World();
    private final Deque<World> history = new ArrayDeque<>();
    private final World[] slots = new World[2];
    private String pad = "";

    private boolean isSquad(int team) {
        return team >= 0 && team < world.squads.size();
    }

    private Squad squad(int team) {
        return world.squads.get(team);
    }

    private void record() {
        history.addLast(world.copy());
        if (history.size() > 6) {
            history.removeFirst();
        }
    }

    private Played played() {
        return new Played(world);
    }

    public int set(int setting, int value) {
        if (setting < 0 || setting > 2 || value < RANGES[setting][0] || value > RANGES[setting][1]) {
            return BAD_VALUE;
        }
        record();
        int old = world.settings[setting];
        world.settings[setting] = value;
        return old;
    }

    public int place(int place, int x, int y, int look) {
        if (place < 0 || place > 7) {
            return NO_SUCH;
        }
        if (x < 0 || x > 20 || y < 0 || y > 20 || look < 1 || look > 15) {
            return BAD_VALUE;
        }
        record();
        int old = world.look[place];
        world.x[place] = x;
        world.y[place] = y;
        world.look[place] = look;
        return old;
    }

    public int close(int place, boolean isClosed) {
        if (place < 0 || place > 7) {
            return NO_SUCH;
        }
        if (isClosed != world.open.contains(place)) {
            return NOT_POSSIBLE;
        }
        record();
        if (isClosed) {
            world.open.remove(place);
        } else {
            world.open.add(place);
        }
        return world.open.size();
    }

    private List<Integer> takeRoute() {
        List<Integer> route = new ArrayList<>();
        for (String place : pad.split(">")) {
            route.add(place.charAt(0) - 'a');
        }
        pad = "";
        return route;
    }

    public int team(int start) {
        if (start < 0 || start > 200) {
            return BAD_VALUE;
        }
        if (fault() != NONE) {
            return BAD_TEXT;
        }
        if (world.squads.size() == 6) {
            return TOO_MANY;
        }
        record();
        Squad squad = new Squad();
        squad.route = takeRoute();
        squad.start = start;
        world.squads.add(squad);
        return world.squads.size() - 1;
    }

    public int route(int team) {
        if (!isSquad(team)) {
            return NO_SUCH;
        }
        if (fault() != NONE) {
            return BAD_TEXT;
        }
        record();
        squad(team).route = takeRoute();
        return played().trails.get(team).size();
    }

    public int leave(int team) {
        if (!isSquad(team)) {
            return NO_SUCH;
        }
        record();
        world.squads.remove(team);
        return world.squads.size();
    }

    public int start(int team, int minute) {
        if (!isSquad(team)) {
            return NO_SUCH;
        }
        if (minute < 0 || minute > 200) {
            return BAD_VALUE;
        }
        record();
        int old = squad(team).start;
        squad(team).start = minute;
        return old;
    }

    public int hint(int team, int place, boolean isTaken) {
        if (!isSquad(team) || place < 0 || place > 7) {
            return NO_SUCH;
        }
        if (squad(team).hints.contains(place) == isTaken) {
            return NOT_POSSIBLE;
        }
        record();
        if (isTaken) {
            squad(team).hints.add(place);
        } else {
            squad(team).hints.remove(place);
        }
        return played().end(team);
    }

    public int lose(int team, int place) {
        if (!isSquad(team) || place < -1 || place > 7) {
            return NO_SUCH;
        }
        record();
        squad(team).lost = place;
        return played().end(team);
    }

    private List<Integer> turned(int team, int by) {
        List<Integer> route = new ArrayList<>(squad(team).route);
        Collections.rotate(route, -by);
        return route;
    }

    private List<Integer> exchanged(int team, int one, int other) {
        List<Integer> route = new ArrayList<>(squad(team).route);
        Collections.swap(route, one, other);
        return route;
    }

    public int turn(int team, int by) {
        if (!isSquad(team)) {
            return NO_SUCH;
        }
        if (by < 1 || by > 7 || by >= squad(team).route.size()) {
            return BAD_VALUE;
        }
        record();
        squad(team).route = turned(team, by);
        return squad(team).route.get(0);
    }

    public int exchange(int team, int one, int other) {
        if (!isSquad(team)) {
            return NO_SUCH;
        }
        int size = squad(team).route.size();
        if (one < 0 || one >= size || other < 0 || other >= size) {
            return NO_SUCH;
        }
        if (one == other) {
            return BAD_VALUE;
        }
        record();
        squad(team).route = exchanged(team, one, other);
        return played().end(team);
    }

    public int part() {
        record();
        for (int team = 0; team < world.squads.size(); team++) {
            int free = new Played(world.upTo(team)).freeStart(team);
            if (free != NONE) {
                squad(team).start = free;
            }
        }
        return played().pairs(-1);
    }

    public int visit(int team, int visit, int what) {
        if (!isSquad(team)) {
            return NO_SUCH;
        }
        if (what < 0 || what > 4) {
            return BAD_VALUE;
        }
        List<Visit> trail = played().trails.get(team);
        if (visit < 0 || visit >= trail.size()) {
            return NONE;
        }
        Visit one = trail.get(visit);
        return new int[] {one.place, one.come, one.begin, one.end, one.walk}[what];
    }

    public int teamOf(int team, int what) {
        if (!isSquad(team)) {
            return NO_SUCH;
        }
        if (what < 0 || what > 9) {
            return BAD_VALUE;
        }
        Played played = played();
        int[] facts = {squad(team).start, played.end(team), squad(team).route.size(), played.trails.get(team).size(),
            played.queued(team, -1), played.walked(team), played.points(team), played.ranking().indexOf(team),
            played.hints(team), played.met(team)};
        return facts[what];
    }

    public int placeOf(int place, int what) {
        if (place < 0 || place > 7) {
            return NO_SUCH;
        }
        if (what < 0 || what > 7) {
            return BAD_VALUE;
        }
        Played played = played();
        int[] facts = {world.x[place], world.y[place], world.look[place], world.open.contains(place) ? 1 : 0,
            played.comers(place), played.queued(-1, place), played.most(place), played.pairs(place)};
        return facts[what];
    }

    public int where(int team, int minute) {
        if (!isSquad(team)) {
            return NO_SUCH;
        }
        if (minute < 0) {
            return BAD_VALUE;
        }
        int place = NONE;
        for (Visit visit : played().trails.get(team)) {
            place = visit.come <= minute ? visit.place : place;
            place = visit.end <= minute ? NONE : place;
        }
        return place;
    }

    public int told(int team, int minute) {
        if (!isSquad(team)) {
            return NO_SUCH;
        }
        if (minute < 0) {
            return BAD_VALUE;
        }
        int place = NONE;
        int told = squad(team).start;
        for (Visit visit : played().trails.get(team)) {
            place = told <= minute ? visit.place : place;
            told = visit.end;
        }
        return told <= minute ? NONE : place;
    }

    public int count(int what) {
        if (what < 0 || what > 12) {
            return BAD_VALUE;
        }
        Played played = played();
        int last = 0;
        int points = 0;
        int visits = 0;
        for (int team = 0; team < world.squads.size(); team++) {
            last = Math.max(last, played.end(team));
            points += played.points(team);
            visits += played.trails.get(team).size();
        }
        int winner = world.squads.isEmpty() ? NONE : played.ranking().get(0);
        int[] counts = {world.settings[0], world.settings[1], world.settings[2], world.squads.size(), world.open.size(),
            played.pairs(-1), last, played.queued(-1, -1), winner, points, visits, pad.length(), history.size()};
        return counts[what];
    }

    public int freeStart(int team) {
        return isSquad(team) ? played().freeStart(team) : NO_SUCH;
    }

    public int bestExchange(int team, int what) {
        if (!isSquad(team)) {
            return NO_SUCH;
        }
        if (what < 0 || what > 2) {
            return BAD_VALUE;
        }
        List<int[]> found = new ArrayList<>();
        for (int other = 0; other < squad(team).route.size(); other++) {
            for (int one = 0; one < other; one++) {
                found.add(new int[] {one, other, new Played(world.with(team, exchanged(team, one, other))).end(team)});
            }
        }
        found.sort(Comparator.comparingInt((int[] one) -> one[2]).thenComparingInt(one -> one[0]).thenComparingInt(one -> one[1]));
        return found.isEmpty() ? NONE : found.get(0)[what];
    }

    public int worstPlace(int what) {
        if (what != 0 && what != 1) {
            return BAD_VALUE;
        }
        int[] best = null;
        for (int place : world.open.descendingSet()) {
            World without = world.copy();
            without.open.remove(place);
            int queued = new Played(without).queued(-1, -1);
            best = best == null || queued <= best[1] ? new int[] {place, queued} : best;
        }
        return best == null ? NONE : best[what];
    }

    public int ifTurned(int team, int by) {
        if (!isSquad(team)) {
            return NO_SUCH;
        }
        if (by < 0 || by > 7 || by > 0 && by >= squad(team).route.size()) {
            return BAD_VALUE;
        }
        return new Played(world.with(team, turned(team, by))).pairs(-1);
    }

    public int put(long characters) {
        String text = "";
        boolean isBad = characters == 0;
        boolean isEnded = false;
        for (int i = 0; i < 8; i++) {
            int code = (int) (characters >> 8 * i) & 255;
            isBad |= isEnded && code != 0;
            isEnded |= code == 0;
            isBad |= !isEnded && (code < 33 || code > 126);
            text = isEnded ? text : (char) code + text;
        }
        if (isBad || text.isEmpty()) {
            return BAD_VALUE;
        }
        if ((pad + text).length() > 20) {
            return TOO_MANY;
        }
        pad += text;
        return pad.length();
    }

    public int wipe() {
        int length = pad.length();
        pad = "";
        return length;
    }

    /** The length of the longest beginning of the pad with which some route begins. */
    public int fault() {
        int good = 0;
        while (good < pad.length() && canBegin(pad.substring(0, good + 1))) {
            good++;
        }
        return good == pad.length() && good % 2 == 1 ? NONE : good;
    }

    private static boolean canBegin(String text) {
        String letters = text.replace(">", "");
        return text.matches("[a-h](>[a-h])*>?") && letters.chars().distinct().count() == letters.length()
            && text.length() <= 15;
    }

    public int undo() {
        if (history.isEmpty()) {
            return NOT_POSSIBLE;
        }
        world = history.removeLast();
        return history.size();
    }

    public int save(int slot) {
        if (slot != 0 && slot != 1) {
            return BAD_VALUE;
        }
        slots[slot] = world.copy();
        return world.squads.size();
    }

    public int restore(int slot) {
        if (slot != 0 && slot != 1) {
            return BAD_VALUE;
        }
        if (slots[slot] == null) {
            return NOT_POSSIBLE;
        }
        record();
        world = slots[slot].copy();
        return world.squads.size();
    }
}
