import java.io.IOException;
import java.lang.reflect.Method;
import java.nio.file.Files;
import java.nio.file.Path;
import java.util.ArrayList;
import java.util.LinkedHashSet;
import java.util.List;
import java.util.Map;
import java.util.TreeMap;
import java.util.TreeSet;
import java.util.regex.MatchResult;
import java.util.regex.Matcher;
import java.util.regex.Pattern;
import java.util.stream.Stream;

/** What README.md says is true: its run is made, and its tables are held against the class and the document. */
public final class ReadmeTest {
    private static final String CODES = "NO_SUCH|BAD_VALUE|BAD_TEXT|TOO_MANY|NOT_POSSIBLE|NONE";
    private static final int CALLS = 28;

    public static void main(String[] args) throws IOException, ReflectiveOperationException {
        String page = Files.readString(Path.of("README.md"));
        String document = Files.readString(Path.of("../shared/DOC.md"));
        run(page);
        constants(page);
        settings(page);
        calls(page, document);
        tests(page);
        Check.end("ReadmeTest");
    }

    private static void run(String page) throws ReflectiveOperationException {
        Check.says("the run");
        String block = group("```java\n(.*?)```", page);
        TrailTeams x = null;
        TreeSet<String> names = new TreeSet<>();
        for (String line : block.split("\n")) {
            if (line.equals("TrailTeams x = new TrailTeams();")) {
                x = new TrailTeams();
                continue;
            }
            Matcher call = Pattern.compile("x\\.(\\w+)\\((.*?)\\);\\s+// (-?\\w+): .+").matcher(line);
            Check.due(line + " is a call", call.matches() ? 1 : 0, 1);
            names.add(call.group(1));
            Check.due(line, answer(x, call.group(1), call.group(2)), number(call.group(3)));
        }
        Check.due("calls in the run", names.size(), CALLS);
    }

    private static int answer(TrailTeams x, String name, String arguments) throws ReflectiveOperationException {
        String[] words = arguments.isEmpty() ? new String[0] : arguments.split(", ");
        Method method = methodNamed(name);
        Class<?>[] types = method.getParameterTypes();
        Check.due("arguments of " + name, words.length, types.length);
        Object[] values = new Object[words.length];
        for (int i = 0; i < words.length; i++) {
            values[i] = value(words[i], types[i]);
        }
        return (int) method.invoke(x, values);
    }

    private static Object value(String word, Class<?> type) throws ReflectiveOperationException {
        if (type == boolean.class) {
            return Boolean.valueOf(word);
        }
        if (type == long.class) {
            return Long.decode(word.substring(0, word.length() - 1));
        }
        return number(word.replace("TrailTeams.", ""));
    }

    private static int number(String word) throws ReflectiveOperationException {
        return word.matches("-?\\d+") ? Integer.parseInt(word) : TrailTeams.class.getField(word).getInt(null);
    }

    private static Method methodNamed(String name) {
        for (Method method : TrailTeams.class.getMethods()) {
            if (method.getName().equals(name)) {
                return method;
            }
        }
        throw new IllegalStateException("no call " + name);
    }

    private static void constants(String page) throws ReflectiveOperationException {
        Check.says("the constants");
        List<MatchResult> rows = all("\\| `([A-Z_]+)` \\| (-\\d+) \\|", page);
        Check.due("rows", rows.size(), 6);
        for (MatchResult row : rows) {
            Check.due(row.group(1), number(row.group(1)), Integer.parseInt(row.group(2)));
        }
    }

    private static void settings(String page) throws ReflectiveOperationException {
        Check.says("the settings");
        List<MatchResult> rows = all("\\| `(\\w+)` \\| (\\d+) \\| (\\d+) to (\\d+) \\| (\\d+) \\|", page);
        Check.due("rows", rows.size(), 3);
        for (MatchResult row : rows) {
            TrailTeams x = new TrailTeams();
            int setting = Integer.parseInt(row.group(2));
            int least = Integer.parseInt(row.group(3));
            int most = Integer.parseInt(row.group(4));
            int first = Integer.parseInt(row.group(5));
            Check.due(row.group(1), number(row.group(1)), setting);
            Check.due("below", x.set(setting, least - 1), TrailTeams.BAD_VALUE);
            Check.due("above", x.set(setting, most + 1), TrailTeams.BAD_VALUE);
            Check.due("the first value", x.set(setting, least), first);
            Check.due("the least", x.set(setting, most), least);
            Check.due("the most", x.count(setting), most);
        }
    }

    private static void calls(String page, String document) {
        Check.says("the calls");
        Map<String, String> promises = new TreeMap<>();
        for (MatchResult promise : all("\n`(int \\w+\\([^`]*\\))`: (.*?)\n(?=## )", document)) {
            promises.put(promise.group(1), promise.group(2));
        }
        Map<String, MatchResult> rows = new TreeMap<>();
        for (MatchResult row : all("\n\\| `(int [^`]+)` \\| ([^|]+) \\| ([^|]+) \\|([^|]*)\\|(?=\n)", page)) {
            Check.same("twice: " + row.group(1), rows.put(row.group(1), row) == null ? "" : "a row", "");
        }
        Check.due("promised calls", promises.size(), CALLS);
        Check.same("the rows", rows.keySet().toString(), promises.keySet().toString());
        for (Map.Entry<String, MatchResult> row : rows.entrySet()) {
            String promise = promises.getOrDefault(row.getKey(), "");
            List<String> codes = codes(row.getValue().group(4));
            if (codes(row.getValue().group(3)).contains("NONE")) {
                codes.add("NONE");
            }
            List<String> due = codes(promise);
            if (due.remove("NONE")) {
                due.add("NONE");
            }
            Check.same(row.getKey(), codes.toString(), due.toString());
        }
    }

    private static List<String> codes(String text) {
        LinkedHashSet<String> codes = new LinkedHashSet<>();
        for (MatchResult code : all("\\b(" + CODES + ")\\b", text)) {
            codes.add(code.group(1));
        }
        return new ArrayList<>(codes);
    }

    private static void tests(String page) throws IOException {
        Check.says("the tests");
        TreeSet<String> named = new TreeSet<>();
        for (MatchResult row : all("\n\\| (`\\w+Test`(?:, `\\w+Test`)*) \\|", page)) {
            named.addAll(List.of(row.group(1).replace("`", "").split(", ")));
        }
        TreeSet<String> found = new TreeSet<>();
        try (Stream<Path> files = Files.list(Path.of("src/test/java"))) {
            files.map(file -> file.getFileName().toString()).filter(name -> name.endsWith("Test.java"))
                .forEach(name -> found.add(name.replace(".java", "")));
        }
        Check.same("the names", named.toString(), found.toString());
    }

    private static String group(String pattern, String text) {
        List<MatchResult> found = all(pattern, text);
        return found.isEmpty() ? "" : found.get(0).group(1);
    }

    private static List<MatchResult> all(String pattern, String text) {
        List<MatchResult> found = new ArrayList<>();
        Matcher matcher = Pattern.compile(pattern, Pattern.DOTALL).matcher(text);
        while (matcher.find()) {
            found.add(matcher.toMatchResult());
        }
        return found;
    }
}
