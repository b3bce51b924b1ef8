import java.lang.reflect.InvocationTargetException;
import java.lang.reflect.Method;
import java.util.ArrayList;
import java.util.Arrays;
import java.util.Collections;
import java.util.List;
import java.util.Map;
import java.util.Random;
import java.util.TreeMap;

/** Promises 1 to 29: the same runs of calls, drawn with fixed seeds, on TrailTeams and on Model. */
public final class ModelTest {
    private static final int RUNS = 160;
    private static final int CALLS = 512;
    private static final int MOST_TO_WRITE = 3;
    private static final String[] NAMES = {"set", "place", "place", "place", "close", "close", "team", "team", "team", "team",
        "route", "route", "leave", "start", "start", "hint", "hint", "lose", "lose", "turn", "exchange", "part",
        "visit", "visit", "visit", "teamOf", "teamOf", "teamOf", "teamOf", "placeOf", "placeOf", "placeOf", "where", "where",
        "told", "told", "count", "count", "count", "freeStart", "bestExchange", "worstPlace", "ifTurned", "put", "put", "put",
        "wipe", "fault", "fault", "undo", "save", "restore"};
    private static final int[] ODD = {-1, -2, 8, 9, 16, 21, 51, 201, 501, Integer.MAX_VALUE, Integer.MIN_VALUE};
    private static final Map<String, Method> OURS = methods(TrailTeams.class);
    private static final Map<String, Method> THEIRS = methods(Model.class);

    private static Random random;
    private static boolean isCrowded;

    public static void main(String[] args) throws ReflectiveOperationException {
        for (int run = 0; run < RUNS; run++) {
            random = new Random(run);
            isCrowded = run % 2 == 0;
            play(run);
        }
        Check.end("ModelTest");
    }

    private static Map<String, Method> methods(Class<?> type) {
        Map<String, Method> methods = new TreeMap<>();
        for (Method method : type.getDeclaredMethods()) {
            if (java.lang.reflect.Modifier.isPublic(method.getModifiers())) {
                methods.put(method.getName(), method);
            }
        }
        return methods;
    }

    private static void play(int run) throws ReflectiveOperationException {
        TrailTeams ours = new TrailTeams();
        Model theirs = new Model();
        List<String> said = new ArrayList<>();
        int call = 0;
        while (call < CALLS) {
            String name = NAMES[random.nextInt(NAMES.length)];
            if ((name.equals("team") || name.equals("route")) && random.nextInt(8) != 0 && call + MOST_TO_WRITE < CALLS) {
                call += write(ours, theirs);
            }
            Object[] arguments = arguments(name);
            said.add(name + Arrays.toString(arguments));
            int got = ask(OURS.get(name), ours, arguments);
            int want = ask(THEIRS.get(name), theirs, arguments);
            Check.due("run " + run + " call " + call + ": " + name + Arrays.toString(arguments), got, want);
            if (got != want) {
                System.out.println("ahead of it: " + said);
                return;
            }
            call++;
        }
    }

    private static int ask(Method method, Object object, Object[] arguments) throws ReflectiveOperationException {
        try {
            return (Integer) method.invoke(object, arguments);
        } catch (InvocationTargetException e) {
            throw new IllegalStateException(method.getName() + Arrays.toString(arguments), e.getCause());
        }
    }

    /** Answers how many calls it made on each. */
    private static int write(TrailTeams ours, Model theirs) {
        List<String> letters = new ArrayList<>(List.of("a", "b", "c", "d", "e", "f", "g", "h"));
        Collections.shuffle(letters, random);
        String text = String.join(">", letters.subList(0, 1 + random.nextInt(8)));
        int calls = 1;
        Check.due("wipe()", ours.wipe(), theirs.wipe());
        for (int i = 0; i < text.length(); i += 8) {
            long number = Check.number(text.substring(i, Math.min(text.length(), i + 8)));
            Check.due("put(" + number + ")", ours.put(number), theirs.put(number));
            calls++;
        }
        return calls;
    }

    private static Object[] arguments(String name) {
        Class<?>[] types = OURS.get(name).getParameterTypes();
        Object[] arguments = new Object[types.length];
        for (int i = 0; i < types.length; i++) {
            arguments[i] = argument(name, i, types[i]);
        }
        return arguments;
    }

    private static Object argument(String name, int index, Class<?> type) {
        if (type == boolean.class) {
            return random.nextBoolean();
        }
        if (type == long.class) {
            return characters();
        }
        if (random.nextInt(25) == 0) {
            return ODD[random.nextInt(ODD.length)];
        }
        return random.nextInt(bound(name + index)) - (name.equals("lose") && index == 1 ? 1 : 0);
    }

    private static int bound(String argument) {
        switch (argument) {
            case "set0": case "restore0": case "save0": case "worstPlace0": case "bestExchange1": return 3;
            case "set1": return random.nextBoolean() ? 6 : 501;
            case "place0": case "close0": case "hint1": case "placeOf0": case "placeOf1": return 8;
            case "place1": case "place2": return isCrowded ? 3 : 21;
            case "place3": return 16;
            case "team0": case "start1": return isCrowded ? 20 : 202;
            case "lose1": return 9;
            case "turn1": case "ifTurned1": return 9;
            case "exchange1": case "exchange2": return random.nextBoolean() ? 3 : 8;
            case "visit1": return 8;
            case "visit2": return 6;
            case "teamOf1": return 11;
            case "where1": case "told1": return isCrowded ? 100 : 400;
            case "count0": return 14;
            default: return 6;
        }
    }

    private static long characters() {
        switch (random.nextInt(6)) {
            case 0: return random.nextLong();
            case 1: return random.nextInt(130);
            case 2: return Check.number("~!>".substring(random.nextInt(3)));
            case 3: return Check.number("ab");
            default: return Check.number(new String[] {"a", "b>", ">c", "d>e>f>g>", "h", ">"}[random.nextInt(6)]);
        }
    }
}
