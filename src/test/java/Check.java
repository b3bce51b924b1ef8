/** Counts what the tests find, and writes routes on the pad for them. */
final class Check {
    private static final int NONE = -100006;

    private static int right = 0;
    private static int wrong = 0;
    private static String sentence = "";

    private Check() {
    }

    /** Names the sentence of the document that the next answers are due to. */
    static void says(String words) {
        sentence = words + " | ";
    }

    static void due(String call, long got, long want) {
        if (got == want) {
            right++;
            return;
        }
        wrong++;
        System.out.println(sentence + call + " answered " + got + ", due is " + want);
    }

    static void same(String what, String got, String want) {
        if (got.equals(want)) {
            right++;
            return;
        }
        wrong++;
        System.out.println(sentence + what + ": " + got + ", due is " + want);
    }

    static void different(String what, String got, String other) {
        due(what + ": " + got + " is another one", got.equals(other) ? 0 : 1, 1);
    }

    static void end(String test) {
        System.out.println(test + ": " + right + " passed, " + wrong + " failed");
        if (wrong != 0) {
            System.exit(1);
        }
    }

    /** The number that put takes for a text of at most 8 characters. */
    static long number(String text) {
        long number = 0;
        for (int i = 0; i < text.length(); i++) {
            number = number << 8 | text.charAt(i);
        }
        return number;
    }

    static void write(TrailTeams x, String text) {
        x.wipe();
        for (int i = 0; i < text.length(); i += 8) {
            x.put(number(text.substring(i, Math.min(text.length(), i + 8))));
        }
    }

    static int team(TrailTeams x, String route, int start) {
        write(x, route);
        return x.team(start);
    }

    /** Puts the first places at the start, with as many minutes of looking. */
    static void gather(TrailTeams x, int places, int look) {
        for (int place = 0; place < places; place++) {
            x.place(place, 0, 0, look);
        }
    }

    /** All that the questions tell, to see whether a call has changed something. */
    static String picture(TrailTeams x) {
        return facts(x) + visits(x);
    }

    /** What count, fault, placeOf and teamOf tell. */
    static String facts(TrailTeams x) {
        StringBuilder text = new StringBuilder();
        for (int what = 0; what <= 12; what++) {
            text.append(x.count(what)).append(' ');
        }
        text.append(x.fault()).append('|');
        for (int place = 0; place < 8; place++) {
            for (int what = 0; what <= 7; what++) {
                text.append(x.placeOf(place, what)).append(' ');
            }
        }
        int teams = x.count(3);
        for (int team = 0; team < teams; team++) {
            text.append('|');
            for (int what = 0; what <= 9; what++) {
                text.append(x.teamOf(team, what)).append(' ');
            }
        }
        return text.toString();
    }

    /** What visit tells. */
    static String visits(TrailTeams x) {
        StringBuilder text = new StringBuilder();
        int teams = x.count(3);
        for (int team = 0; team < teams; team++) {
            text.append('/');
            for (int visit = 0; visit <= 8 && x.visit(team, visit, 0) != NONE; visit++) {
                for (int what = 0; what <= 4; what++) {
                    text.append(x.visit(team, visit, what)).append(' ');
                }
            }
        }
        return text.toString();
    }

    /** The picture without the pad and the history, which undo and the slots leave alone. */
    static String game(TrailTeams x) {
        String whole = picture(x);
        String[] counts = whole.substring(0, whole.indexOf('|')).split(" ");
        StringBuilder text = new StringBuilder();
        for (int what = 0; what <= 10; what++) {
            text.append(counts[what]).append(' ');
        }
        return text.append(whole.substring(whole.indexOf('|'))).toString();
    }
}
