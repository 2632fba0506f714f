import java.util.NoSuchElementException;

/** Every call that takes a player refuses one who is not on the field, has the ball, or is in the ruck. */
public final class OffFieldTest {
    private static final Check CHECK = new Check("OffFieldTest");
    private static final Class<? extends RuntimeException> UNSUPPORTED = UnsupportedOperationException.class;
    private static final String[] CAUSES = {"bench", "yellow", "red", "under decision", "gone by t", "gone by i",
        "off by b", "off by h", "bench again"};

    public static void main(String[] args) {
        for (String cause : CAUSES) {
            anyTime(cause);
            openPlay(cause);
            rucksAndSetPieces(cause);
            restarts(cause);
            cardsAndReplacements(cause);
        }
        theOneWithTheBall();
        thoseInTheRuck();
        ruckIsOverWhenWon();
        ruckIsOverWhenStopped();
        CHECK.end();
    }

    /** The player of both teams who is off for the cause. */
    private static int player(String cause) {
        return cause.startsWith("bench") ? 21 : 9;
    }

    /** The kick-off of the team 1 is to come, and in both teams one player is off for the cause. */
    private static Scrumward stopped(String cause) {
        Scrumward x = Match.stopped(1);
        for (int team = 0; team < 2; team++) {
            switch (cause) {
                case "yellow":
                case "red":
                    x.card(team, 9, cause.charAt(0));
                    break;
                case "under decision":
                    x.card(team, 9, 'b');
                    break;
                case "bench":
                    break;
                case "bench again":
                    x.replace(team, 9, 21, 'b');
                    x.comeBack(team, 9);
                    break;
                default:
                    x.replace(team, 9, 21, cause.charAt(cause.length() - 1));
                    break;
            }
        }
        return x;
    }

    /** As stopped, and the player 8 of the team 0 has the ball at 50. */
    private static Scrumward open(String cause) {
        Scrumward x = stopped(cause);
        x.restart(8);
        x.carry(50);
        return x;
    }

    private static void anyTime(String cause) {
        Scrumward x = stopped(cause);
        int off = player(cause);
        for (int team = 0; team < 2; team++) {
            int side = team;
            CHECK.refuses("3 " + cause, UNSUPPORTED, x, () -> x.setPlace(side, off, 50));
            CHECK.refuses("4 " + cause, NoSuchElementException.class, x, () -> x.placeOf(side, off));
            CHECK.refuses("5 " + cause, UNSUPPORTED, x, () -> x.isOffside(side, off));
        }
    }

    private static void openPlay(String cause) {
        Scrumward x = open(cause);
        int off = player(cause);
        CHECK.refuses("15 " + cause, UNSUPPORTED, x, () -> x.throwTo(off));
        CHECK.refuses("16 " + cause, UNSUPPORTED, x, () -> x.lose(off, false));
        CHECK.refuses("16 knocked on, " + cause, UNSUPPORTED, x, () -> x.lose(off, true));
        CHECK.refuses("17 " + cause, UNSUPPORTED, x, () -> x.tackle(off));
    }

    private static void rucksAndSetPieces(String cause) {
        int off = player(cause);
        for (char kind : new char[] {'r', 's', 'l'}) {
            Scrumward x = open(cause);
            if (kind == 'r') {
                x.tackle(7);
            } else if (kind == 's') {
                x.offend(0, 's', true);
                x.blow();
                x.restart(1);
            } else {
                x.kickOut(50, true);
                x.restart(1);
            }
            for (int team = 0; team < 2; team++) {
                int side = team;
                CHECK.refuses("19 " + kind + ", " + cause, UNSUPPORTED, x, () -> x.win(side, off));
                if (kind == 'r') {
                    CHECK.refuses("18 " + cause, UNSUPPORTED, x, () -> x.join(side, off));
                }
            }
        }
    }

    private static void restarts(String cause) {
        int off = player(cause);
        Scrumward x = stopped(cause);
        CHECK.refuses("24 k, " + cause, UNSUPPORTED, x, () -> x.restart(off));
        Scrumward y = open(cause);
        y.carry(0);
        y.ground();
        CHECK.refuses("24 d, " + cause, UNSUPPORTED, y, () -> y.restart(off));
        for (char kind : new char[] {'p', 'f'}) {
            Scrumward z = open(cause);
            z.offend(1, kind, true);
            z.blow();
            CHECK.refuses("24 " + kind + ", " + cause, UNSUPPORTED, z, () -> z.restart(off));
        }
        for (char kind : new char[] {'s', 'l'}) {
            Scrumward z = open(cause);
            z.offend(1, 'p', true);
            z.blow();
            z.choose(kind == 's' ? 's' : 't', 50);
            CHECK.due("24 whichever number is told, " + kind, z.restart(off), false);
        }
    }

    private static void cardsAndReplacements(String cause) {
        Scrumward x = stopped(cause);
        int off = player(cause);
        for (char kind : new char[] {'y', 'r', 'b'}) {
            CHECK.refuses("29 " + cause, UNSUPPORTED, x, () -> x.card(1, off, kind));
        }
        for (char kind : new char[] {'t', 'i', 'b', 'h'}) {
            CHECK.refuses("32 " + cause, UNSUPPORTED, x, () -> x.replace(1, off, 22, kind));
        }
    }

    /** "If that player is not on the field, or carries the ball"; "carries the ball, or is in the ruck". */
    private static void theOneWithTheBall() {
        Scrumward x = Match.open(0, 50);
        CHECK.refuses("15 to itself", UNSUPPORTED, x, () -> x.throwTo(8));
        CHECK.refuses("3 with the ball", UNSUPPORTED, x, () -> x.setPlace(0, 8, 50));
        CHECK.due("3 the same number of the other team", x.setPlace(1, 8, 51), 60);
        CHECK.due("15 to another one", x.throwTo(9), false);
        CHECK.refuses("15 to itself", UNSUPPORTED, x, () -> x.throwTo(9));
        CHECK.refuses("3 with the ball", UNSUPPORTED, x, () -> x.setPlace(0, 9, 50));
        CHECK.due("3 without it any more", x.setPlace(0, 8, 41), 50);
        x.lose(9, false);
        CHECK.refuses("15 to itself, of the other team", UNSUPPORTED, x, () -> x.throwTo(9));
        CHECK.refuses("3 of the other team", UNSUPPORTED, x, () -> x.setPlace(1, 9, 50));
        CHECK.due("3 lost it", x.setPlace(0, 9, 42), 40);
        x.kickOut(50, true);
        CHECK.due("3 kicked it", x.setPlace(1, 9, 42), 60);
    }

    /** "If the player is not on the field, or in the ruck." */
    private static void thoseInTheRuck() {
        Scrumward x = Match.ruck(0, 50);
        x.setPlace(1, 1, 52);
        x.join(1, 1);
        x.setPlace(0, 1, 48);
        x.join(0, 1);
        int[][] inside = {{0, 8}, {1, 7}, {1, 1}, {0, 1}};
        for (int[] one : inside) {
            CHECK.refuses("3 in the ruck", UNSUPPORTED, x, () -> x.setPlace(one[0], one[1], 50));
            CHECK.refuses("18 in the ruck", UNSUPPORTED, x, () -> x.join(one[0], one[1]));
            CHECK.refuses("19 in the ruck", UNSUPPORTED, x, () -> x.win(one[0], one[1]));
        }
        CHECK.due("3 the same number of the other team", x.setPlace(1, 8, 58), 60);
        CHECK.due("18 the same number of the other team", x.join(0, 7), false);
        CHECK.due("19 one who is not in it", x.win(1, 8), 1);
    }

    private static void ruckIsOverWhenWon() {
        Scrumward x = Match.ruck(0, 50);
        x.join(1, 1);
        x.win(0, 9);
        CHECK.due("3 the tackled one", x.setPlace(0, 8, 51), 50);
        CHECK.due("3 the tackler", x.setPlace(1, 7, 55), 50);
        CHECK.due("3 the one who joined", x.setPlace(1, 1, 48), 60);
        CHECK.due("15 to the tackled one", x.throwTo(8), true);
        x.tackle(1);
        CHECK.due("18 the tackler of the ruck before", x.join(1, 7), false);
    }

    private static void ruckIsOverWhenStopped() {
        Scrumward x = Match.ruck(0, 50);
        x.join(1, 1);
        x.offend(1, 'p', true);
        x.blow();
        CHECK.due("3 the tackled one", x.setPlace(0, 8, 51), 50);
        CHECK.due("3 the tackler", x.setPlace(1, 7, 49), 50);
        CHECK.due("3 the one who joined", x.setPlace(1, 1, 48), 60);
        CHECK.due("24 the tackled one goes on", x.restart(8), true);
        CHECK.due("4 at its place", x.placeOf(0, 8), 50);
        x.tackle(1);
        CHECK.due("18 the tackler of the ruck before", x.join(1, 7), true);
    }
}
