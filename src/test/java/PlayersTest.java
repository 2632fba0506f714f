import java.util.NoSuchElementException;

/** Promises 1 to 6: a new object, laws and players. */
public final class PlayersTest {
    private static final Check CHECK = new Check("PlayersTest");
    private static final String LAWS = "ghabyro";
    private static final int[] FIRST = {15, 8, 30, 15, 600, 0, 0};
    private static final int[] LEAST = {1, 1, 1, 1, 1, 0, 0};
    private static final int[] MOST = {50, 50, 120, 120, 1200, 2400, 1};

    public static void main(String[] args) {
        newObject();
        lawValues();
        lawErrors();
        lawsAtWork();
        places();
        placeErrors();
        offsideInOpenPlay();
        offsideInRucks();
        contested();
        CHECK.end();
    }

    private static void newObject() {
        Scrumward x = new Scrumward();
        CHECK.due("1 period", x.period(), -1);
        CHECK.due("1 clock", x.clock(), 0);
        CHECK.due("1 play", x.play(), 'x');
        CHECK.due("1 isOver", x.isOver(), false);
        CHECK.due("1 decisions", x.decisions(), 0);
        CHECK.due("1 isContested", x.isContested(), true);
        CHECK.due("1 seconds", x.secondsOfPlay(), 0);
        for (int team = 0; team < 2; team++) {
            CHECK.due("1 onField", x.onField(team), 15);
            CHECK.due("1 allowed", x.allowed(team), 15);
            CHECK.due("1 points", x.points(team), 0);
            for (int player = 1; player <= 15; player++) {
                CHECK.due("1 placeOf " + player, x.placeOf(team, player), team == 0 ? 40 : 60);
            }
            for (int player = 16; player <= 23; player++) {
                int number = player;
                int side = team;
                CHECK.fails("1 bench " + player, NoSuchElementException.class, () -> x.placeOf(side, number));
            }
        }
    }

    private static void lawValues() {
        Scrumward x = new Scrumward();
        for (int i = 0; i < LAWS.length(); i++) {
            char which = LAWS.charAt(i);
            CHECK.due("2 first " + which, x.law(which, MOST[i]), FIRST[i]);
            CHECK.due("2 most " + which, x.law(which, LEAST[i]), MOST[i]);
            CHECK.due("2 least " + which, x.law(which, LEAST[i]), LEAST[i]);
        }
    }

    private static void lawErrors() {
        Scrumward x = new Scrumward();
        for (int i = 0; i < LAWS.length(); i++) {
            char which = LAWS.charAt(i);
            int above = MOST[i] + 1;
            int below = LEAST[i] - 1;
            CHECK.fails("2 above " + which, IllegalArgumentException.class, () -> x.law(which, above));
            CHECK.fails("2 below " + which, IllegalArgumentException.class, () -> x.law(which, below));
            CHECK.due("2 unchanged " + which, x.law(which, MOST[i]), FIRST[i]);
        }
        for (int value = -1; value < 3; value++) {
            int tried = value;
            CHECK.fails("2 none", IllegalArgumentException.class, () -> x.law('z', tried));
        }
        x.begin(0);
        CHECK.fails("2 begun", IllegalStateException.class, () -> x.law('g', 10));
        CHECK.fails("2 first the value", IllegalArgumentException.class, () -> x.law('g', 0));
        Match.playAndStop(x, 2400);
        CHECK.due("2 between", x.period(), -1);
        CHECK.fails("2 between periods", IllegalStateException.class, () -> x.law('g', 10));
    }

    /** Each law is set to another value than the first one, and must be the one that counts. */
    private static void lawsAtWork() {
        Scrumward x = new Scrumward();
        x.law('g', 5);
        x.law('h', 3);
        Match.openOf(x, 0, 50);
        x.offend(1, 'p', true);
        x.offend(1, 's', true);
        CHECK.due("2 gain s short", x.carry(52), 2);
        CHECK.due("2 gain s", x.carry(53), 1);
        CHECK.due("2 gain p", x.carry(55), 0);
        Scrumward y = new Scrumward();
        y.law('a', 20);
        y.law('b', 10);
        Match.openOf(y, 0, 50);
        y.offend(1, 'f', true);
        y.offend(1, 's', true);
        y.pass(9);
        CHECK.due("2 seconds s short", y.carry(50), 2);
        y.pass(1);
        CHECK.due("2 seconds s", y.carry(50), 1);
        y.pass(10);
        CHECK.due("2 seconds f", y.carry(50), 0);
    }

    private static void places() {
        Scrumward x = new Scrumward();
        CHECK.due("3 before", x.setPlace(0, 15, 0), 40);
        CHECK.due("3 then", x.setPlace(0, 15, 100), 0);
        CHECK.due("4 place", x.placeOf(0, 15), 100);
        CHECK.due("4 other team", x.placeOf(1, 15), 60);
        CHECK.due("3 again", x.setPlace(0, 15, 7), 100);
        Scrumward y = Match.open(1, 30);
        CHECK.due("3 same number of the other team", y.setPlace(0, 8, 20), 40);
        CHECK.due("4 the one with the ball", y.placeOf(1, 8), 30);
    }

    private static void placeErrors() {
        Scrumward x = Match.open(1, 30);
        for (int team : new int[] {-1, 2, Integer.MAX_VALUE, Integer.MIN_VALUE}) {
            CHECK.fails("3 team", IndexOutOfBoundsException.class, () -> x.setPlace(team, 1, -1));
            CHECK.fails("4 team", IndexOutOfBoundsException.class, () -> x.placeOf(team, 1));
            CHECK.fails("5 team", IndexOutOfBoundsException.class, () -> x.isOffside(team, 1));
        }
        for (int player : new int[] {-1, 0, 24, Integer.MAX_VALUE, Integer.MIN_VALUE}) {
            CHECK.fails("3 player", IndexOutOfBoundsException.class, () -> x.setPlace(0, player, 101));
            CHECK.fails("4 player", IndexOutOfBoundsException.class, () -> x.placeOf(0, player));
            CHECK.fails("5 player", IndexOutOfBoundsException.class, () -> x.isOffside(0, player));
        }
        CHECK.fails("3 place -1", IllegalArgumentException.class, () -> x.setPlace(0, 16, -1));
        CHECK.fails("3 place 101", IllegalArgumentException.class, () -> x.setPlace(1, 8, 101));
        CHECK.fails("3 bench", UnsupportedOperationException.class, () -> x.setPlace(0, 16, 5));
        CHECK.fails("3 with the ball", UnsupportedOperationException.class, () -> x.setPlace(1, 8, 5));
        CHECK.fails("4 bench", NoSuchElementException.class, () -> x.placeOf(1, 23));
        CHECK.fails("5 bench", UnsupportedOperationException.class, () -> x.isOffside(1, 23));
        CHECK.due("3 unchanged", x.placeOf(1, 8), 30);
        Scrumward y = Match.ruck(0, 50);
        CHECK.fails("3 in the ruck", UnsupportedOperationException.class, () -> y.setPlace(0, 8, 5));
        CHECK.fails("3 the tackler", UnsupportedOperationException.class, () -> y.setPlace(1, 7, 5));
        y.win(0, 9);
        CHECK.due("3 out of the ruck", y.setPlace(0, 8, 5), 50);
        y.offend(1, 'p', true);
        y.blow();
        CHECK.due("3 no ball any more", y.setPlace(0, 9, 5), 50);
    }

    private static void offsideInOpenPlay() {
        Scrumward x = Match.open(0, 50);
        x.setPlace(1, 1, 50);
        CHECK.due("5 at the line", x.isOffside(1, 1), false);
        x.setPlace(1, 1, 49);
        CHECK.due("5 ahead, the team 1", x.isOffside(1, 1), true);
        CHECK.due("5 behind, the team 1", x.isOffside(1, 2), false);
        x.setPlace(0, 1, 90);
        CHECK.due("5 the team with the ball", x.isOffside(0, 1), false);
        x.carry(40);
        CHECK.due("5 the line moves", x.isOffside(1, 1), false);
        Scrumward y = Match.open(1, 50);
        y.setPlace(0, 1, 51);
        CHECK.due("5 ahead, the team 0", y.isOffside(0, 1), true);
        CHECK.due("5 behind, the team 0", y.isOffside(0, 2), false);
        y.offend(0, 'p', true);
        y.blow();
        CHECK.due("5 stopped", y.isOffside(0, 1), false);
        CHECK.fails("5 stopped, bench", UnsupportedOperationException.class, () -> y.isOffside(0, 16));
        Scrumward z = Match.scrum(1, 50);
        z.setPlace(0, 1, 90);
        z.setPlace(1, 1, 10);
        CHECK.due("5 a scrum", z.isOffside(0, 1) || z.isOffside(1, 1), false);
        CHECK.due("5 ahead of the first period", new Scrumward().isOffside(0, 1), false);
    }

    private static void offsideInRucks() {
        Scrumward x = Match.ruck(0, 50);
        x.setPlace(0, 1, 51);
        x.setPlace(1, 1, 49);
        x.setPlace(0, 2, 50);
        CHECK.due("5 ruck, the team 0", x.isOffside(0, 1), true);
        CHECK.due("5 ruck, the team 1", x.isOffside(1, 1), true);
        CHECK.due("5 ruck, at the line", x.isOffside(0, 2), false);
        x.setPlace(0, 3, 45);
        x.join(0, 3);
        CHECK.due("5 ruck, the line went back", x.isOffside(0, 2), true);
        CHECK.due("5 ruck, those in it", x.isOffside(0, 8), false);
        CHECK.due("5 ruck, the other line stays", x.isOffside(1, 1), true);
        x.setPlace(1, 3, 58);
        x.join(1, 3);
        x.setPlace(1, 2, 57);
        CHECK.due("5 ruck, ahead of the other line", x.isOffside(1, 2), true);
        x.setPlace(1, 2, 58);
        CHECK.due("5 ruck, at the other line", x.isOffside(1, 2), false);
        x.setPlace(0, 4, 46);
        x.join(0, 4);
        x.setPlace(0, 5, 46);
        CHECK.due("5 ruck, the one ahead does not move it", x.isOffside(0, 5), true);
    }

    private static void contested() {
        for (int team = 0; team < 2; team++) {
            Scrumward x = Match.stopped(0);
            x.replace(team, 1, 16, 't');
            CHECK.due("6 16 for 1", x.isContested(), true);
            x.replace(team, 3, 17, 't');
            CHECK.due("6 17 for 3", x.isContested(), true);
            x.replace(team, 2, 18, 't');
            CHECK.due("6 18 for 2", x.isContested(), true);
            x.card(team, 18, 'y');
            CHECK.due("6 no hooker", x.isContested(), false);
            Scrumward y = Match.stopped(0);
            y.card(team, 4, 'r');
            CHECK.due("6 another one off", y.isContested(), true);
            y.card(team, 3, 'y');
            CHECK.due("6 one prop", y.isContested(), false);
            y.replace(team, 5, 17, 't');
            CHECK.due("6 two props again", y.isContested(), true);
            y.replace(team, 6, 16, 't');
            CHECK.due("6 three", y.isContested(), true);
            for (int player = 1; player <= 3; player++) {
                Scrumward z = Match.stopped(0);
                z.card(team, player, 'y');
                CHECK.due("6 without " + player, z.isContested(), false);
            }
        }
    }
}
