import java.util.List;
import java.util.function.Consumer;
import java.util.function.Supplier;

/**
 * Two objects in the same state: calls that change nothing are made on one of them, and then it has to answer as the
 * other one does. Some of the state shows only behind further changes, and an object is good for 512 calls, so that
 * each probe begins with a new object.
 */
final class Twins {
    private static final int DEPTHS = 8;
    private static final int SLOTS = 2;
    private static final int PROBES = 2 * (DEPTHS + SLOTS + 1) + 1;

    private final String name;
    private final Supplier<TrailTeams> scene;
    private final String[] untouched = new String[PROBES];

    Twins(String name, Supplier<TrailTeams> scene) {
        this.name = name;
        this.scene = scene;
        for (int probe = 0; probe < PROBES; probe++) {
            untouched[probe] = look(scene.get(), probe);
        }
    }

    static List<Twins> ofAllScenes() {
        return List.of(new Twins("nothing", Scenes::nothing), new Twins("busy", Scenes::busy),
            new Twins("full", Scenes::full), new Twins("closed", Scenes::closed));
    }

    int teams() {
        return scene.get().count(3);
    }

    int places(int team) {
        return scene.get().teamOf(team, 2);
    }

    int trail(int team) {
        return scene.get().teamOf(team, 3);
    }

    void unchanged(String what, Consumer<TrailTeams> calls) {
        for (int probe = 0; probe < PROBES; probe++) {
            TrailTeams x = scene.get();
            calls.accept(x);
            Check.same(what + " in " + name + ", probe " + probe, look(x, probe), untouched[probe]);
        }
    }

    private static String look(TrailTeams x, int probe) {
        StringBuilder text = new StringBuilder();
        int kind = probe / 2;
        if (kind < DEPTHS) {
            for (int i = 0; i < kind; i++) {
                text.append(x.undo()).append(' ');
            }
        } else if (kind < DEPTHS + SLOTS) {
            text.append(x.restore(kind - DEPTHS)).append(' ');
        } else if (probe < PROBES - 1) {
            showHiddenThings(x);
        } else {
            return pad(x);
        }
        return text.append(probe % 2 == 0 ? Check.facts(x) : Check.visits(x)).toString();
    }

    /** A hint and a lost map show only at places of the trail. */
    private static void showHiddenThings(TrailTeams x) {
        openAll(x);
        int teams = x.count(3);
        for (int team = 0; team < teams; team++) {
            Check.write(x, Scenes.FORTH);
            x.route(team);
        }
    }

    private static void openAll(TrailTeams x) {
        for (int place = 0; place < 8; place++) {
            x.close(place, false);
        }
    }

    /** The characters of a pad show only as a route. */
    private static String pad(TrailTeams x) {
        StringBuilder text = new StringBuilder();
        text.append(x.count(11)).append(' ').append(x.fault()).append(' ');
        openAll(x);
        x.leave(5);
        text.append(x.put(Check.number(">a"))).append(' ').append(x.team(0)).append(' ');
        return text.append(Check.visits(x)).toString();
    }
}
