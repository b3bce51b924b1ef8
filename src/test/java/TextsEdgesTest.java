/** The boundary cases of promises 24 to 26, and of the terms on texts. */
public final class TextsEdgesTest {
    private static final int BAD_VALUE = -100002;
    private static final int BAD_TEXT = -100003;
    private static final int TOO_MANY = -100004;
    private static final int NONE = -100006;

    public static void main(String[] args) {
        putOfOneToEight();
        codesAtTheirEnds();
        codesAtEveryPosition();
        bitsAboveTheEnd();
        theOrderOfCharacters();
        putUpToTwenty();
        errorsOfPutInOrder();
        wipeOfEmptyAndFull();
        faultOfShortTexts();
        faultOfLettersAtTheEnds();
        faultOfAPlaceThatStandsAhead();
        faultBehindEightPlaces();
        faultIsTheFirstOne();
        aPadWithAFaultGivesNoRoute();
        aPadIsNoState();
        Check.end("TextsEdgesTest");
    }

    private static void putOfOneToEight() {
        Check.says("24: characters: 1 to 8 characters; returns the length of the pad then");
        for (int length = 1; length <= 8; length++) {
            TrailTeams x = new TrailTeams();
            Check.due("put of " + length, x.put(Check.number("a>b>c>d>".substring(0, length))), length);
            Check.due("the length of the pad", x.count(11), length);
            Check.due("its fault", x.fault(), length % 2 == 1 ? NONE : length);
        }
        Check.due("put(0)", new TrailTeams().put(0), BAD_VALUE);
    }

    private static void codesAtTheirEnds() {
        Check.says("24: BAD_VALUE if .. a code is not 33 to 126");
        for (int code = 0; code <= 255; code++) {
            TrailTeams x = new TrailTeams();
            boolean isGood = code >= 33 && code <= 126;
            Check.due("put(" + code + ")", x.put(code), isGood ? 1 : BAD_VALUE);
            Check.due("the length of the pad", x.count(11), isGood ? 1 : 0);
        }
    }

    private static void codesAtEveryPosition() {
        long[] bad = {1, 32, 127, 128, 255};
        Check.says("24: BAD_VALUE if .. a code is not 33 to 126 (each of the eight)");
        for (int position = 0; position < 8; position++) {
            TrailTeams x = new TrailTeams();
            long others = Check.number("aaaaaaaa") & ~(255L << 8 * position);
            for (long code : bad) {
                long characters = others | code << 8 * position;
                Check.due("put(" + characters + ")", x.put(characters), BAD_VALUE);
            }
            Check.due("the pad stays empty", x.count(11), 0);
            Check.due("the least code", x.put(others | 33L << 8 * position), 8);
            Check.due("the greatest code", x.put(others | 126L << 8 * position), 16);
        }
    }

    private static void bitsAboveTheEnd() {
        Check.says("24: 8 bits that are 0 mean .. no more characters, and everything above them has to be 0, too");
        for (int length = 0; length <= 7; length++) {
            long characters = Check.number("aaaaaaa".substring(0, length));
            TrailTeams x = new TrailTeams();
            for (int bit = 8 * length + 8; bit <= 63; bit++) {
                Check.due("put of " + length + " with bit " + bit, x.put(characters | 1L << bit), BAD_VALUE);
            }
            Check.due("the pad stays empty", x.count(11), 0);
            Check.due("without it", x.put(characters), length == 0 ? BAD_VALUE : length);
        }
        TrailTeams x = new TrailTeams();
        Check.due("a letter above 8 bits that are 0", x.put(97L << 56 | 97), BAD_VALUE);
        Check.due("a letter above 8 bits that are 0, the last ones", x.put(97 << 8), BAD_VALUE);
        Check.due("all bits", x.put(-1), BAD_VALUE);
        Check.due("the least number", x.put(Long.MIN_VALUE), BAD_VALUE);
        Check.due("the greatest number", x.put(Long.MAX_VALUE), BAD_VALUE);
        Check.due("the pad stays empty", x.count(11), 0);
    }

    private static void theOrderOfCharacters() {
        TrailTeams x = new TrailTeams();
        Check.says("24: its lowest 8 bits are the last character, the next 8 bits the one before, and so on");
        Check.due("put of \"h>\"", x.put((long) 'h' << 8 | '>'), 2);
        Check.due("put of \"a>b>c>d>\"", x.put(Check.number("a>b>c>d>")), 10);
        Check.due("put of \"e\"", x.put('e'), 11);
        Check.due("route of the pad", x.team(0), 0);
        int[] places = {7, 0, 1, 2, 3, 4};
        for (int visit = 0; visit < places.length; visit++) {
            Check.due("place " + visit, x.visit(0, visit, 0), places[visit]);
        }
        Check.due("places", x.teamOf(0, 2), places.length);
    }

    private static void putUpToTwenty() {
        Check.says("24: TOO_MANY if the pad would be longer than 20");
        for (int length = 1; length <= 8; length++) {
            for (int spare = -1; spare <= 1; spare++) {
                TrailTeams x = new TrailTeams();
                for (int i = 0; i < 20 - length - spare; i++) {
                    x.put('a');
                }
                long characters = Check.number("bbbbbbbb".substring(0, length));
                String call = "put of " + length + " with room for " + (length + spare);
                Check.due(call, x.put(characters), spare < 0 ? TOO_MANY : 20 - spare);
                Check.due("the length of the pad", x.count(11), spare < 0 ? 21 - length : 20 - spare);
            }
        }
    }

    private static void errorsOfPutInOrder() {
        TrailTeams x = new TrailTeams();
        Check.write(x, "aaaaaaaaaaaaaaaaaaaa");
        Check.says("24: BAD_VALUE .. ahead of TOO_MANY (a full pad)");
        Check.due("put(0)", x.put(0), BAD_VALUE);
        Check.due("put(32)", x.put(32), BAD_VALUE);
        Check.due("put(127)", x.put(127), BAD_VALUE);
        Check.due("put of a bit above", x.put(97L << 16 | 97), BAD_VALUE);
        Check.due("put of a good one", x.put(97), TOO_MANY);
        Check.due("put of eight good ones", x.put(Check.number("aaaaaaaa")), TOO_MANY);
        Check.due("the length of the pad", x.count(11), 20);
        Check.due("wipe()", x.wipe(), 20);
        Check.due("put behind it", x.put(97), 1);
    }

    private static void wipeOfEmptyAndFull() {
        TrailTeams x = new TrailTeams();
        Check.says("25: Empties the pad, and returns the length that it had");
        Check.due("wipe() of an empty pad", x.wipe(), 0);
        x.put(97);
        Check.due("wipe() of one", x.wipe(), 1);
        Check.due("the pad", x.count(11), 0);
        Check.write(x, "b>aaaaaaaaaaaaaaaaaa");
        Check.due("wipe() of a full pad", x.wipe(), 20);
        Check.due("wipe() again", x.wipe(), 0);
        Check.due("its fault", x.fault(), 0);
        Check.due("team(0)", x.team(0), BAD_TEXT);
        x.put('c');
        x.team(0);
        Check.due("only what was put behind it", x.visit(0, 0, 0), 2);
        Check.due("one place", x.teamOf(0, 2), 1);
    }

    private static void faults(String[] texts, int[] due) {
        TrailTeams x = new TrailTeams();
        for (int i = 0; i < texts.length; i++) {
            Check.write(x, texts[i]);
            Check.due("fault() of \"" + texts[i] + "\"", x.fault(), due[i]);
            Check.due("the pad stays", x.count(11), texts[i].length());
        }
    }

    private static void faultOfShortTexts() {
        Check.says("if there is none and the text ends too early (also if it is empty), it is the length of the text");
        String[] texts = {"", "a>", "a>b>", "a>b>c>d>e>f>g>"};
        int[] due = {0, 2, 4, 14};
        faults(texts, due);
        Check.says("26: NONE if there is none");
        String[] good = {"a", "h", "a>b", "h>a", "a>b>c>d>e>f>g", Scenes.FORTH, Scenes.BACK};
        faults(good, new int[] {NONE, NONE, NONE, NONE, NONE, NONE, NONE});
    }

    private static void faultOfLettersAtTheEnds() {
        Check.says("each a letter a to h (at the first place, and at the last one)");
        String[] texts = {"`", "a", "h", "i", "A", "H", "z", "!", "~", "b>`", "b>a", "b>h", "b>i", "b>A", "b>!", "b>>"};
        int[] due = {0, NONE, NONE, 0, 0, 0, 0, 0, 0, 2, NONE, NONE, 2, 2, 2, 2};
        faults(texts, due);
        Check.says("text = place { \">\" place }");
        String[] between = {"a=b", "a>b", "a?b", "a<b", "a-b", "aab", "aha", ">a", ">", "a>b=", "a>b>", "a>b?", "ab"};
        int[] then = {1, NONE, 1, 1, 1, 1, 1, 0, 0, 3, 4, 3, 1};
        faults(between, then);
    }

    private static void faultOfAPlaceThatStandsAhead() {
        Check.says("none twice; (also of a place that stands ahead already");
        String[] texts = {"a>a", "h>h", "a>b>a", "a>b>b", "a>b>c>d>e>f>g>a", "a>b>c>d>e>f>g>g", "h>g>f>e>d>c>b>h"};
        int[] due = {2, 2, 4, 4, 14, 14, 14};
        faults(texts, due);
    }

    private static void faultBehindEightPlaces() {
        Check.says("and of a \">\" behind eight places)");
        String[] texts = {Scenes.FORTH, Scenes.FORTH + ">", Scenes.BACK + ">", Scenes.FORTH + ">a", Scenes.FORTH + ">i",
            Scenes.FORTH + "a", Scenes.FORTH + "~", Scenes.FORTH + ">a>b>", "b>c>d>e>f>g>h>", "b>c>d>e>f>g>h>a>"};
        int[] due = {NONE, 15, 15, 15, 15, 15, 15, 15, 14, 15};
        faults(texts, due);
    }

    private static void faultIsTheFirstOne() {
        Check.says("the first character that cannot stand at its place when the text is read from left to right");
        String[] texts = {"ii", "a>i>", "a>a>", "a>b>a>b", "aab>", "a>>b", "a>b>c!", "!!!!!!!!!!!!!!!!!!!!",
            "a>b>c>d>e>f>g>haaaaa", "a>b>c>d>e>f>g>aaaaaa", "aaaaaaaaaaaaaaaaaaaa"};
        int[] due = {0, 2, 2, 4, 1, 2, 5, 0, 15, 14, 1};
        faults(texts, due);
    }

    private static void aPadWithAFaultGivesNoRoute() {
        TrailTeams x = new TrailTeams();
        Check.team(x, "c", 0);
        String[] texts = {"", "a>", "a>a", "i", "ab", Scenes.FORTH + ">"};
        Check.says("5, 6: BAD_TEXT if the pad has a fault");
        for (String text : texts) {
            Check.write(x, text);
            Check.due("team(0) of \"" + text + "\"", x.team(0), BAD_TEXT);
            Check.due("route(0) of \"" + text + "\"", x.route(0), BAD_TEXT);
            Check.due("the pad stays", x.count(11), text.length());
            Check.due("teams", x.count(3), 1);
            Check.due("the route stays", x.visit(0, 0, 0), 2);
        }
        Check.write(x, "a>");
        x.team(0);
        Check.due("the pad goes on behind a refused call", x.put('b'), 3);
        Check.due("team(0) then", x.team(0), 1);
        Check.due("its second place", x.visit(1, 1, 0), 1);
    }

    private static void aPadIsNoState() {
        TrailTeams x = new TrailTeams();
        Check.says("24 to 26: texts are no changes");
        x.put('a');
        x.fault();
        x.wipe();
        x.put('b');
        Check.due("changes that can be undone", x.count(12), 0);
        x.save(0);
        x.put('!');
        x.restore(0);
        Check.due("restore(0) leaves the pad", x.count(11), 2);
        Check.due("also its characters", x.fault(), 1);
        x.undo();
        Check.due("undo() leaves the pad", x.count(11), 2);
    }
}
