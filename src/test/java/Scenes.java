/** States at which the tests of refused calls and of edges begin, each made with fewer than 50 calls. */
final class Scenes {
    static final String FORTH = "a>b>c>d>e>f>g>h";
    static final String BACK = "h>g>f>e>d>c>b>a";

    private Scenes() {
    }

    static TrailTeams nothing() {
        return new TrailTeams();
    }

    /** Routes of eight places, of one and of three; a full history, slot 1 empty, on the pad a route. */
    static TrailTeams busy() {
        TrailTeams x = new TrailTeams();
        Check.team(x, BACK, 200);
        Check.team(x, "c", 0);
        x.save(0);
        Check.team(x, "b>d>e", 7);
        x.set(0, 50);
        x.set(1, 0);
        x.set(2, 5);
        x.place(3, 20, 20, 15);
        x.close(4, true);
        x.hint(0, 4, true);
        x.hint(2, 0, true);
        x.lose(2, 7);
        x.lose(0, 6);
        Check.write(x, "f>b");
        return x;
    }

    /** Six teams, of which the first five meet, with eight places each; both slots in use, a pad of 20 without a route. */
    static TrailTeams full() {
        TrailTeams x = new TrailTeams();
        for (int team = 0; team < 6; team++) {
            x.save(team % 2);
            Check.team(x, FORTH, team);
        }
        x.turn(5, 7);
        Check.write(x, FORTH + "aaaaa");
        return x;
    }

    /** Six teams without trails, as all places are closed; on the pad a route. */
    static TrailTeams closed() {
        TrailTeams x = new TrailTeams();
        for (int team = 0; team < 6; team++) {
            Check.team(x, FORTH.substring(0, 1 + 2 * team), 10 * team);
        }
        x.hint(5, 0, true);
        x.lose(5, 0);
        x.save(1);
        for (int place = 0; place < 8; place++) {
            x.close(place, true);
        }
        Check.write(x, "g>c");
        return x;
    }
}
