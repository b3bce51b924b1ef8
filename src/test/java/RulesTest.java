import java.io.IOException;
import java.lang.management.ManagementFactory;
import java.lang.reflect.Constructor;
import java.lang.reflect.Field;
import java.lang.reflect.Method;
import java.lang.reflect.Modifier;
import java.nio.charset.StandardCharsets;
import java.nio.file.Files;
import java.nio.file.Path;
import java.util.Arrays;
import java.util.List;
import java.util.TreeSet;
import java.util.regex.Matcher;
import java.util.regex.Pattern;

/** The face of the document, and those rules of LANGUAGE.md that a program can look after. */
public final class RulesTest {
    private static final List<String> METHODS = List.of("set(int, int)", "place(int, int, int, int)", "close(int, boolean)",
        "team(int)", "route(int)", "leave(int)", "start(int, int)", "hint(int, int, boolean)", "lose(int, int)",
        "turn(int, int)", "exchange(int, int, int)", "part()", "visit(int, int, int)", "teamOf(int, int)",
        "placeOf(int, int)", "where(int, int)", "told(int, int)", "count(int)", "freeStart(int)", "bestExchange(int, int)",
        "worstPlace(int)", "ifTurned(int, int)", "put(long)", "wipe()", "fault()", "undo()", "save(int)", "restore(int)");
    private static final List<String> CONSTANTS = List.of("NO_SUCH=-100001", "BAD_VALUE=-100002", "BAD_TEXT=-100003",
        "TOO_MANY=-100004", "NOT_POSSIBLE=-100005", "NONE=-100006", "FEE=0", "PRIZE=1", "LOST=2");
    private static final List<String> RULED_OUT = List.of("\\bthrow\\b", "\\bthrows\\b", "\\btry\\b", "\\bcatch\\b",
        "\\bsynchronized\\b", "\\bassert\\b", "\\bprotected\\b", "\\bpackage\\b", "\\bvar\\b", "->", "::", "@", "Exact\\b",
        "\\bequals\\b", "\\bhashCode\\b", "\\btoString\\b", "\\bObject\\b", "\\bThread\\b", "\\bRandom\\b", "\\bwhile \\(true",
        "for \\(;;", "\\bSystem\\.(?!arraycopy)", "\\bnative\\b", "\\bvolatile\\b", "\\btransient\\b");
    private static final int MOST_LINES = 60;
    private static final long MOST_BYTES = 20_000;

    public static void main(String[] args) throws IOException, ReflectiveOperationException {
        face();
        insides(TrailTeams.class);
        for (Class<?> inside : TrailTeams.class.getDeclaredClasses()) {
            Check.due("a class inside is static: " + inside, Modifier.isStatic(inside.getModifiers()) ? 1 : 0, 1);
            Check.due("and not public: " + inside, Modifier.isPublic(inside.getModifiers()) ? 1 : 0, 0);
            insides(inside);
        }
        Check.due("classes", TrailTeams.class.getDeclaredClasses().length <= 11 ? 1 : 0, 1);
        text();
        callsMakeNoObjects();
        Check.end("RulesTest");
    }

    private static void face() throws ReflectiveOperationException {
        Check.due("a public final class", TrailTeams.class.getModifiers(), Modifier.PUBLIC | Modifier.FINAL);
        TreeSet<String> methods = new TreeSet<>();
        for (Method method : TrailTeams.class.getDeclaredMethods()) {
            if (!Modifier.isPrivate(method.getModifiers())) {
                String parameters = Arrays.toString(method.getParameterTypes());
                methods.add(method.getName() + "(" + parameters.substring(1, parameters.length() - 1) + ")");
                Check.due(method + " is public", method.getModifiers(), Modifier.PUBLIC);
                Check.same("the type of " + method, method.getReturnType().getName(), "int");
            }
        }
        Check.same("methods", methods.toString(), new TreeSet<>(METHODS).toString());
        TreeSet<String> constants = new TreeSet<>();
        for (Field field : TrailTeams.class.getDeclaredFields()) {
            if (!Modifier.isPrivate(field.getModifiers())) {
                constants.add(field.getName() + "=" + field.getInt(null));
                Check.due(field + "", field.getModifiers(), Modifier.PUBLIC | Modifier.STATIC | Modifier.FINAL);
            }
        }
        Check.same("constants", constants.toString(), new TreeSet<>(CONSTANTS).toString());
        Constructor<?>[] constructors = TrailTeams.class.getDeclaredConstructors();
        Check.due("constructors", constructors.length, 1);
        Check.due("it is public", constructors[0].getModifiers(), Modifier.PUBLIC);
        Check.due("its parameters", constructors[0].getParameterCount(), 0);
    }

    private static void insides(Class<?> type) {
        int fields = 0;
        for (Field field : type.getDeclaredFields()) {
            boolean isStatic = Modifier.isStatic(field.getModifiers());
            fields += isStatic ? 0 : 1;
            Check.due("a static field is final: " + field, !isStatic || Modifier.isFinal(field.getModifiers()) ? 1 : 0, 1);
        }
        Check.due("fields of " + type, fields <= 20 ? 1 : 0, 1);
        for (Method method : type.getDeclaredMethods()) {
            Check.due("parameters of " + method, method.getParameterCount() <= 7 ? 1 : 0, 1);
            boolean isOfTheFace = type == TrailTeams.class && Modifier.isPublic(method.getModifiers());
            boolean hasItsName = METHODS.stream().anyMatch(name -> name.startsWith(method.getName() + "("));
            Check.due("the name of " + method, !isOfTheFace && hasItsName ? 1 : 0, 0);
        }
    }

    private static void text() throws IOException {
        String text = Files.readString(Path.of("src/main/java/TrailTeams.java"), StandardCharsets.US_ASCII);
        String code = text.replaceAll("/\\*(?s:.*?)\\*/", "").replaceAll("//.*", "").replaceAll("'[^']+'", "' '");
        for (String word : RULED_OUT) {
            Matcher matcher = Pattern.compile(word).matcher(code);
            Check.same("the text", matcher.find() ? "has " + matcher.group() : "", "");
        }
        Matcher imports = Pattern.compile("import ([^;]+);").matcher(code);
        while (imports.find()) {
            Check.same("import", imports.group(1), "java.util.Arrays");
        }
        methodLengths(text.split("\n"));
    }

    private static void methodLengths(String[] lines) {
        int methods = 0;
        for (int begin = 0; begin < lines.length; begin++) {
            if (!lines[begin].matches("(?: {4}| {8})(?!for |if |while |switch |\\})[^ ].*\\) \\{")) {
                continue;
            }
            int end = begin;
            while (!lines[end].equals(" ".repeat(indent(lines[begin])) + "}")) {
                end++;
            }
            methods++;
            Check.due("the method at line " + (begin + 1) + " is short", end - begin < MOST_LINES ? 1 : 0, 1);
        }
        Check.due("methods are found", methods > METHODS.size() ? 1 : 0, 1);
    }

    private static int indent(String line) {
        return line.length() - line.stripLeading().length();
    }

    /** All calls of a run live in one room. */
    private static void callsMakeNoObjects() {
        askAll(new TrailTeams());
        com.sun.management.ThreadMXBean bean = (com.sun.management.ThreadMXBean) ManagementFactory.getThreadMXBean();
        TrailTeams x = new TrailTeams();
        long self = Thread.currentThread().getId();
        long before = bean.getThreadAllocatedBytes(self);
        askAll(x);
        long made = bean.getThreadAllocatedBytes(self) - before;
        Check.due("bytes of a run's objects: " + made, made <= MOST_BYTES ? 1 : 0, 1);
    }

    private static void askAll(TrailTeams x) {
        for (int round = 0; round < 7; round++) {
            x.put(0x613E623E633E6465L >>> 8);
            x.team(round);
            x.put(0x653E61L);
            x.route(0);
            x.set(round % 3, 4);
            x.place(round % 8, round, 3, 4);
            x.close(round % 8, round % 2 == 0);
            x.start(round % 6, round);
            x.hint(round % 6, round % 8, true);
            x.lose(round % 6, round % 8);
            x.turn(0, 1);
            x.exchange(0, 0, 1);
            x.part();
            x.visit(0, 0, round % 5);
            for (int what = 0; what <= 12; what++) {
                x.count(what);
                x.teamOf(round % 6, what);
                x.placeOf(round % 8, what);
            }
            x.where(0, round);
            x.told(0, round);
            x.freeStart(0);
            x.bestExchange(0, 0);
            x.worstPlace(0);
            x.ifTurned(0, 1);
            x.fault();
            x.save(round % 2);
            x.restore(0);
            x.undo();
            x.wipe();
        }
        x.leave(0);
    }
}
