import java.lang.management.ManagementFactory;
import java.lang.reflect.Constructor;
import java.lang.reflect.Field;
import java.lang.reflect.Method;
import java.lang.reflect.Modifier;
import java.util.Arrays;
import java.util.List;
import java.util.TreeSet;

/** The face of the document, and that calls make no objects. */
public final class RulesTest {
    private static final List<String> METHODS = List.of("set(int, int)", "place(int, int, int, int)", "close(int, boolean)",
        "team(int)", "route(int)", "leave(int)", "start(int, int)", "hint(int, int, boolean)", "lose(int, int)",
        "turn(int, int)", "exchange(int, int, int)", "part()", "visit(int, int, int)", "teamOf(int, int)",
        "placeOf(int, int)", "where(int, int)", "told(int, int)", "count(int)", "freeStart(int)", "bestExchange(int, int)",
        "worstPlace(int)", "ifTurned(int, int)", "put(long)", "wipe()", "fault()", "undo()", "save(int)", "restore(int)");
    private static final List<String> CONSTANTS = List.of("NO_SUCH=-100001", "BAD_VALUE=-100002", "BAD_TEXT=-100003",
        "TOO_MANY=-100004", "NOT_POSSIBLE=-100005", "NONE=-100006", "FEE=0", "PRIZE=1", "LOST=2");
    private static final long MOST_BYTES = 20_000;

    public static void main(String[] args) throws ReflectiveOperationException {
        face();
        names(TrailTeams.class);
        for (Class<?> inside : TrailTeams.class.getDeclaredClasses()) {
            Check.due("not public: " + inside, Modifier.isPublic(inside.getModifiers()) ? 1 : 0, 0);
            names(inside);
        }
        callsMakeNoObjects();
        Check.end("RulesTest");
    }

    private static void face() throws ReflectiveOperationException {
        Check.due("a public final class", TrailTeams.class.getModifiers(), Modifier.PUBLIC | Modifier.FINAL);
        TreeSet<String> methods = new TreeSet<>();
        for (Method method : TrailTeams.class.getDeclaredMethods()) {
            if (!Modifier.isPrivate(method.getModifiers())) {
                String parameters = Arrays.toString(method.getParameterTypes());
                methods.add(method.getName() + "(" + parameters.substring(1, parameters.length() - 1) + ")");
                Check.due(method + " is public", method.getModifiers(), Modifier.PUBLIC);
                Check.same("the type of " + method, method.getReturnType().getName(), "int");
            }
        }
        Check.same("methods", methods.toString(), new TreeSet<>(METHODS).toString());
        TreeSet<String> constants = new TreeSet<>();
        for (Field field : TrailTeams.class.getDeclaredFields()) {
            if (!Modifier.isPrivate(field.getModifiers())) {
                constants.add(field.getName() + "=" + field.getInt(null));
                Check.due(field + "", field.getModifiers(), Modifier.PUBLIC | Modifier.STATIC | Modifier.FINAL);
            }
        }
        Check.same("constants", constants.toString(), new TreeSet<>(CONSTANTS).toString());
        Constructor<?>[] constructors = TrailTeams.class.getDeclaredConstructors();
        Check.due("constructors", constructors.length, 1);
        Check.due("it is public", constructors[0].getModifiers(), Modifier.PUBLIC);
        Check.due("its parameters", constructors[0].getParameterCount(), 0);
    }

    /** No method behind the face bears the name of one of the face. */
    private static void names(Class<?> type) {
        for (Method method : type.getDeclaredMethods()) {
            boolean isOfTheFace = type == TrailTeams.class && Modifier.isPublic(method.getModifiers());
            boolean hasItsName = METHODS.stream().anyMatch(name -> name.startsWith(method.getName() + "("));
            Check.due("the name of " + method, !isOfTheFace && hasItsName ? 1 : 0, 0);
        }
    }

    /** All calls of a run live in one room. */
    private static void callsMakeNoObjects() {
        askAll(new TrailTeams());
        com.sun.management.ThreadMXBean bean = (com.sun.management.ThreadMXBean) ManagementFactory.getThreadMXBean();
        TrailTeams x = new TrailTeams();
        long self = Thread.currentThread().getId();
        long before = bean.getThreadAllocatedBytes(self);
        askAll(x);
        long made = bean.getThreadAllocatedBytes(self) - before;
        Check.due("bytes of a run's objects: " + made, made <= MOST_BYTES ? 1 : 0, 1);
    }

    private static void askAll(TrailTeams x) {
        for (int round = 0; round < 7; round++) {
            x.put(0x613E623E633E6465L >>> 8);
            x.team(round);
            x.put(0x653E61L);
            x.route(0);
            x.set(round % 3, 4);
            x.place(round % 8, round, 3, 4);
            x.close(round % 8, round % 2 == 0);
            x.start(round % 6, round);
            x.hint(round % 6, round % 8, true);
            x.lose(round % 6, round % 8);
            x.turn(0, 1);
            x.exchange(0, 0, 1);
            x.part();
            x.visit(0, 0, round % 5);
            for (int what = 0; what <= 12; what++) {
                x.count(what);
                x.teamOf(round % 6, what);
                x.placeOf(round % 8, what);
            }
            x.where(0, round);
            x.told(0, round);
            x.freeStart(0);
            x.bestExchange(0, 0);
            x.worstPlace(0);
            x.ifTurned(0, 1);
            x.fault();
            x.save(round % 2);
            x.restore(0);
            x.undo();
            x.wipe();
        }
        x.leave(0);
    }
}
