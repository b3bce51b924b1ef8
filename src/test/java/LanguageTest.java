import java.io.IOException;
import java.net.URI;
import java.nio.charset.StandardCharsets;
import java.nio.file.Files;
import java.nio.file.Path;
import java.util.Set;
import javax.tools.JavaFileObject;
import javax.tools.SimpleJavaFileObject;

/** The class keeps LANGUAGE.md; and programs that break one rule are found out. */
public final class LanguageTest {
    public static void main(String[] args) throws IOException {
        String text = Files.readString(Path.of("src/main/java/TrailTeams.java"), StandardCharsets.US_ASCII);
        Check.same("TrailTeams.java", Language.breaksIn(file(text)).toString(), "[]");
        finds(1, "package p; public final class TrailTeams { }");
        finds(1, "public class TrailTeams { }");
        finds(1, "public final class TrailTeams { } class Other { }");
        finds(1, "public final class TrailTeams { int open; }");
        finds(1, "public final class TrailTeams { public static class Inside { } }");
        finds(2, "public final class TrailTeams { private final class Inside { } }");
        finds(2, within("class Local { } return 1;"));
        finds(2, within("Runnable r = () -> { }; return 1;"));
        finds(2, within("java.util.function.IntUnaryOperator r = Math::abs; return 1;"));
        finds(2, within("Runnable r = new Runnable() { public void run() { } }; return 1;"));
        finds(3, within("Object o = null; return 1;"));
        finds(3, within("int[][][] rows = null; return 1;"));
        finds(3, within("String[][] rows = null; return 1;"));
        finds(3, within("double half = 0.5; return 1;"));
        finds(4, within("return Math.addExact(1, 2);"));
        finds(4, within("return \"a\".hashCode();"));
        finds(4, within("System.gc(); return 1;"));
        finds(4, within("return Integer.parseInt(\"1\");"));
        finds(4, within("return Integer.MAX_VALUE;"));
        finds(4, within("return new Object() == null ? 1 : 2;"));
        finds(5, "public final class TrailTeams { private static int count; }");
        finds(5, "public final class TrailTeams { private static final int[] ROW = new int[3]; }");
        finds(5, "public final class TrailTeams { private static final int[] ROW = {1}; void f() { ROW[0] = 2; } }");
        finds(5, "public final class TrailTeams { private static final int[] ROW = {1}; void f() { ROW[0]++; } }");
        finds(5, "import java.util.Arrays; public final class TrailTeams { private static final int[] ROW = {1};"
            + " void f() { Arrays.fill(ROW, 0); } }");
        finds(5, "public final class TrailTeams { static { } }");
        finds(6, within("throw new IllegalArgumentException();"));
        finds(6, within("try { return 1; } finally { }"));
        finds(6, within("assert true; return 1;"));
        finds(6, within("synchronized (this) { return 1; }"));
        finds(6, within("return \"a\" == \"b\" ? 1 : 2;"));
        finds(6, within("Object o = this; TrailTeams t = (TrailTeams) o; return 1;"));
        finds(8, "public final class TrailTeams { int one() { return other(); } int other() { return one(); } }");
        finds(9, within("while (true) { }"));
        finds(9, within("for (;;) { }"));
        finds(9, within("for (int i = 0; i < 3; i--) { } return 1;"));
        finds(9, within("for (int i = 0; i < 3; i++) { i = 0; } return 1;"));
        finds(9, within("int i = 0; while (i < 3) { } return 1;"));
        finds(10, within("String s = \"a\" + 1; return 1;"));
        finds(10, within("String s = \"a\"; s += 1; return 1;"));
        finds(11, "public final class TrailTeams { int f(int a, int b, int c, int d, int e, int f, int g, int h) { return 1; } }");
        finds(11, within("\n".repeat(60) + "return 1;"));
        finds(11, deep());
        finds(12, within("int[] row = new int[3]; return 1;"));
        finds(12, within("TrailTeams other = new TrailTeams(); return 1;"));
        keeps(within("int[] row = null; for (int i = 3; i >= 0; i--) { } return Math.abs(1);"));
        Check.end("LanguageTest");
    }

    private static String within(String statements) {
        return "public final class TrailTeams { int call() { " + statements + " } }";
    }

    private static String deep() {
        StringBuilder text = new StringBuilder("public final class TrailTeams { int f0() { return 1; }");
        for (int i = 1; i <= 9; i++) {
            text.append(" int f").append(i).append("() { return f").append(i - 1).append("(); }");
        }
        return text.append(" }").toString();
    }

    private static void finds(int rule, String text) throws IOException {
        Set<String> breaks = Language.breaksIn(file(text));
        boolean isFound = breaks.stream().anyMatch(found -> found.startsWith(rule + ": "));
        Check.due("rule " + rule + " is broken by " + text + ": " + breaks, isFound ? 1 : 0, 1);
    }

    private static void keeps(String text) throws IOException {
        Check.same(text, Language.breaksIn(file(text)).toString(), "[]");
    }

    private static JavaFileObject file(String text) {
        return new SimpleJavaFileObject(URI.create("string:///TrailTeams.java"), JavaFileObject.Kind.SOURCE) {
            @Override
            public CharSequence getCharContent(boolean isLenient) {
                return text;
            }
        };
    }
}
