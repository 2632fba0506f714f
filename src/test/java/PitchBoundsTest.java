import java.util.NoSuchElementException;

/** Terms: the pitch, the players and the offside lines; a test for each sentence that names a boundary. */
public final class PitchBoundsTest {
    private static final Check CHECK = new Check("PitchBoundsTest");
    private static final int[] FRONT_ROW = {1, 3, 16, 17, 2, 18};

    public static void main(String[] args) {
        directions();
        startersAndBench();
        frontRows();
        othersAreNoFrontRow();
        lineInOpenPlay();
        lineInRuckOfTwo();
        lineInRuckOfMore();
        lineMovesWithEachWhoJoins();
        noOffsideForThoseInTheRuck();
        noOffsideWithTheBall();
        noOffsideElsewhere();
        CHECK.end();
    }

    /** "The team 0 plays towards 100, the team 1 towards 0, always; ahead is meant so for each." */
    private static void directions() {
        for (int period = 0; period < 2; period++) {
            for (int team = 0; team < 2; team++) {
                Scrumward x = Match.afterPeriods(new Scrumward(), period);
                Match.openOf(x, team, Match.goal(team));
                CHECK.due("23 a try, the team " + team + " in the period " + period, x.ground(), 'c');
            }
        }
    }

    /** "1 to 15 are on the field at first, the team 0 at the place 40, the team 1 at 60; the others are on the bench." */
    private static void startersAndBench() {
        Scrumward x = new Scrumward();
        CHECK.due("4 the first", x.placeOf(0, 1), 40);
        CHECK.due("4 the first, the team 1", x.placeOf(1, 1), 60);
        CHECK.due("4 the last on the field", x.placeOf(0, 15), 40);
        CHECK.due("4 the last on the field, the team 1", x.placeOf(1, 15), 60);
        for (int team = 0; team < 2; team++) {
            int side = team;
            CHECK.refuses("4 the first on the bench", NoSuchElementException.class, x, () -> x.placeOf(side, 16));
            CHECK.refuses("4 the last on the bench", NoSuchElementException.class, x, () -> x.placeOf(side, 23));
        }
    }

    /** "A team has its front row if 2 props and a hooker of it, or more, are on the field": each set of the six. */
    private static void frontRows() {
        for (int team = 0; team < 2; team++) {
            for (int set = 0; set < 64; set++) {
                Scrumward x = withSix(team);
                for (int i = 0; i < 6; i++) {
                    if ((set >> i & 1) == 0) {
                        x.card(team, FRONT_ROW[i], 'r');
                    }
                }
                boolean isFull = Integer.bitCount(set & 15) >= 2 && set >= 16;
                CHECK.due("6 the team " + team + ", the set " + set, x.isContested(), isFull);
            }
        }
        Scrumward y = withSix(0);
        y.card(0, 2, 'b');
        y.card(0, 18, 'y');
        y.card(1, 2, 'r');
        CHECK.due("6 both teams without", y.isContested(), false);
    }

    /** All six of the team's front row are on the field. */
    private static Scrumward withSix(int team) {
        Scrumward x = Match.stopped(0);
        x.replace(team, 4, 16, 't');
        x.replace(team, 5, 17, 't');
        x.replace(team, 6, 18, 't');
        return x;
    }

    /** "1, 3, 16, 17 are props, 2 and 18 hookers", and nobody else is. */
    private static void othersAreNoFrontRow() {
        Scrumward x = Match.stopped(0);
        for (int player = 4; player <= 15; player++) {
            x.card(0, player, 'r');
            CHECK.due("6 without " + player, x.isContested(), true);
        }
        for (int player = 19; player <= 23; player++) {
            Scrumward y = Match.stopped(0);
            y.replace(1, 1, player, 't');
            CHECK.due("6 " + player + " is no prop", y.isContested(), false);
            Scrumward z = Match.stopped(0);
            z.replace(1, 2, player, 't');
            CHECK.due("6 " + player + " is no hooker", z.isContested(), false);
        }
        Scrumward v = Match.stopped(0);
        v.replace(1, 1, 18, 't');
        CHECK.due("6 a hooker is no prop", v.isContested(), false);
        Scrumward w = Match.stopped(0);
        w.replace(1, 2, 16, 't');
        CHECK.due("6 a prop is no hooker", w.isContested(), false);
    }

    /** "In open play the line of the team without the ball is the ball." "Offside if ahead of its line." */
    private static void lineInOpenPlay() {
        for (int team = 0; team < 2; team++) {
            int ahead = team == 0 ? 1 : -1;
            Scrumward x = Match.open(1 - team, 50);
            x.setPlace(team, 4, 50 - ahead);
            CHECK.due("5 one behind the ball", x.isOffside(team, 4), false);
            x.setPlace(team, 4, 50);
            CHECK.due("5 at the ball", x.isOffside(team, 4), false);
            x.setPlace(team, 4, 50 + ahead);
            CHECK.due("5 one ahead of the ball", x.isOffside(team, 4), true);
            x.carry(50 + ahead);
            CHECK.due("5 the ball has come there", x.isOffside(team, 4), false);
            x.carry(Match.goal(1 - team));
            x.setPlace(team, 4, Match.goal(1 - team));
            CHECK.due("5 at the ball at the end", x.isOffside(team, 4), false);
        }
    }

    /** "In a ruck, the line of a team is the place of the one of its players in it who is farthest behind." */
    private static void lineInRuckOfTwo() {
        for (int team = 0; team < 2; team++) {
            int ahead = team == 0 ? 1 : -1;
            for (int holder = 0; holder < 2; holder++) {
                Scrumward x = Match.ruck(holder, 50);
                x.setPlace(team, 4, 50);
                CHECK.due("5 at the line", x.isOffside(team, 4), false);
                x.setPlace(team, 4, 50 + ahead);
                CHECK.due("5 one ahead of the line", x.isOffside(team, 4), true);
                x.setPlace(team, 4, 50 - ahead);
                CHECK.due("5 one behind the line", x.isOffside(team, 4), false);
            }
        }
    }

    private static void lineInRuckOfMore() {
        for (int team = 0; team < 2; team++) {
            int ahead = team == 0 ? 1 : -1;
            Scrumward x = Match.ruck(0, 50);
            x.setPlace(team, 1, 50 - 3 * ahead);
            x.setPlace(team, 15, 50 - 2 * ahead);
            CHECK.due("18 behind", x.join(team, 1), false);
            CHECK.due("18 ahead of the one behind", x.join(team, 15), true);
            x.setPlace(team, 4, 50 - 3 * ahead);
            CHECK.due("5 at the one farthest behind", x.isOffside(team, 4), false);
            x.setPlace(team, 4, 50 - 2 * ahead);
            CHECK.due("5 one ahead of that one", x.isOffside(team, 4), true);
            x.setPlace(1 - team, 4, 50);
            CHECK.due("5 the line of the other team stays", x.isOffside(1 - team, 4), false);
            x.setPlace(1 - team, 4, 50 - ahead);
            CHECK.due("5 one ahead of it", x.isOffside(1 - team, 4), true);
        }
    }

    private static void lineMovesWithEachWhoJoins() {
        Scrumward x = Match.ruck(1, 50);
        for (int step = 1; step <= 5; step++) {
            x.setPlace(0, 15, 50 - step);
            CHECK.due("5 ahead of the line to come", x.isOffside(0, 15), false);
            x.setPlace(0, step, 50 - step);
            CHECK.due("18 at the line or behind", x.join(0, step), false);
            x.setPlace(0, 15, 51 - step);
            CHECK.due("5 at the line before", x.isOffside(0, 15), true);
        }
        x.win(1, 9);
        x.setPlace(0, 15, 50);
        CHECK.due("5 at the ball, the ruck is over", x.isOffside(0, 15), false);
        x.tackle(6);
        CHECK.due("5 a new ruck, the line of the one before has no meaning", x.isOffside(0, 15), false);
    }

    /** "Returns true if so; false .. for those in the ruck." */
    private static void noOffsideForThoseInTheRuck() {
        Scrumward x = Match.ruck(0, 50);
        x.setPlace(0, 1, 40);
        x.setPlace(0, 2, 45);
        CHECK.due("18 behind", x.join(0, 1), false);
        CHECK.due("5 not in it yet", x.isOffside(0, 2), true);
        CHECK.due("18 ahead", x.join(0, 2), true);
        CHECK.due("5 in it", x.isOffside(0, 2), false);
        CHECK.due("5 the tackled one", x.isOffside(0, 8), false);
        CHECK.due("5 the tackler", x.isOffside(1, 7), false);
    }

    /** "Returns true if so; false .. for the team that has the ball in open play." */
    private static void noOffsideWithTheBall() {
        for (int team = 0; team < 2; team++) {
            Scrumward x = Match.open(team, 50);
            x.setPlace(team, 4, Match.goal(team));
            CHECK.due("5 with the ball", x.isOffside(team, 4), false);
            CHECK.due("5 the one with it", x.isOffside(team, 8), false);
            x.setPlace(1 - team, 4, 50);
            x.lose(4, false);
            CHECK.due("5 without it any more", x.isOffside(team, 4), true);
        }
    }

    /** "Returns true if so; false in other play than open play and rucks." */
    private static void noOffsideElsewhere() {
        for (String state : Match.STATES) {
            if (state.equals("open") || state.equals("ruck")) {
                continue;
            }
            Scrumward x = Match.in(state);
            x.setPlace(0, 4, 100);
            x.setPlace(1, 4, 0);
            CHECK.due("5 " + state, x.isOffside(0, 4) || x.isOffside(1, 4), false);
        }
    }
}
