/** Promises 24 to 26: texts. */
public final class TextsTest {
    private static final int BAD_VALUE = -100002;
    private static final int TOO_MANY = -100004;
    private static final int NONE = -100006;

    public static void main(String[] args) {
        put();
        putErrors();
        wipe();
        fault();
        Check.end("TextsTest");
    }

    private static void put() {
        TrailTeams x = new TrailTeams();
        Check.due("24: put of one", x.put(Check.number("b")), 1);
        Check.due("24: put of eight", x.put(Check.number(">h>a>c>d")), 9);
        Check.due("24: put of four", x.put(Check.number(">e>f")), 13);
        Check.due("24: it is no change", x.count(12), 0);
        Check.due("24: team(0)", x.team(0), 0);
        int[] places = {1, 7, 0, 2, 3, 4, 5};
        for (int visit = 0; visit < places.length; visit++) {
            Check.due("24: place " + visit, x.visit(0, visit, 0), places[visit]);
        }
        Check.due("24: put of the least and the most code", x.put(33 << 8 | 126), 2);
        Check.due("24: put up to 10", x.put(Check.number("aaaaaaaa")), 10);
        Check.due("24: put up to 18", x.put(Check.number("~~~~~~~~")), 18);
        Check.due("24: one too many", x.put(Check.number("abc")), TOO_MANY);
        Check.due("24: put up to 20", x.put(Check.number("ab")), 20);
        Check.due("24: put beyond 20", x.put(Check.number("a")), TOO_MANY);
        Check.due("24: a bad value ahead of too many", x.put(32), BAD_VALUE);
        Check.due("24: the pad stays", x.count(11), 20);
    }

    private static void putErrors() {
        TrailTeams x = new TrailTeams();
        long[] bad = {0, 32, 127, 255, 97 << 8, 97L << 56, 97L << 16 | 98, 97L << 8 | 32, 32L << 8 | 97, 127L << 8 | 97,
            1L << 63 | 97, -1, Long.MIN_VALUE, Long.MAX_VALUE, 200L << 56 | 0x61616161616161L, 31L << 56 | 0x61616161616161L};
        for (long one : bad) {
            Check.due("24: put(" + one + ")", x.put(one), BAD_VALUE);
        }
        Check.due("24: the pad is empty", x.count(11), 0);
    }

    private static void wipe() {
        TrailTeams x = new TrailTeams();
        Check.due("25: wipe() of an empty pad", x.wipe(), 0);
        x.put(Check.number("a>b"));
        Check.due("25: wipe()", x.wipe(), 3);
        Check.due("25: count(11)", x.count(11), 0);
        Check.due("25: fault()", x.fault(), 0);
        Check.due("25: wipe() again", x.wipe(), 0);
        Check.due("25: it is no change", x.count(12), 0);
        Check.due("25: put behind it", x.put(Check.number("c")), 1);
        x.team(0);
        Check.due("25: only what came behind it", x.visit(0, 0, 0), 2);
    }

    private static void fault() {
        String[] texts = {"", "a", "h", "i", "A", "`", ">", "a>", "a>>", "a>b", "ab", "a>bc", "a>a", "a>b>a", "a>i", "a-b",
            "a>b>", "h>g>f>e>d>c>b>a", "a>b>c>d>e>f>g>h>", "a>b>c>d>e>f>g>h>a", "a>b>c>d>e>f>g>ha", "a>b>c>d>e>f>g>g",
            "a>b>c>d>e>f>g>", "a>b>c>d>e>f>g", "aaaaaaaaaaaaaaaaaaaa"};
        int[] faults = {0, NONE, NONE, 0, 0, 0, 0, 2, 2, NONE, 1, 3, 2, 4, 2, 1,
            4, NONE, 15, 15, 15, 14, 14, NONE, 1};
        TrailTeams x = new TrailTeams();
        for (int i = 0; i < texts.length; i++) {
            Check.write(x, texts[i]);
            Check.due("26: fault() of " + texts[i], x.fault(), faults[i]);
            Check.due("26: the pad stays", x.count(11), texts[i].length());
        }
    }
}
