/** Promises 24 to 28: restarts, choices, kicks, scrums set anew and reviews. */
public final class ToComeTest {
    private static final Check CHECK = new Check("ToComeTest");

    public static void main(String[] args) {
        restartByCatch();
        restartSetPieces();
        restartByTap();
        restartErrors();
        choose();
        chooseErrors();
        kickAtGoal();
        conversion();
        kickClocks();
        reset();
        resetBroughtBack();
        review();
        reviewOfPhases();
        reviewOfStretches();
        reviewEnds();
        CHECK.end();
    }

    private static void restartByCatch() {
        Scrumward x = Match.stopped(0);
        CHECK.due("24 kick-off", x.restart(5), true);
        CHECK.due("24 where that one is", x.placeOf(1, 5), 60);
        x.carry(10);
        CHECK.due("24 carries", x.placeOf(1, 5), 10);
        Scrumward y = Match.open(0, 0);
        y.ground();
        CHECK.due("24 drop-out", y.restart(6), true);
        y.carry(33);
        CHECK.due("24 the other team has it", y.placeOf(1, 6), 33);
    }

    private static void restartSetPieces() {
        Scrumward x = Match.given(0, 's', 35);
        CHECK.due("24 scrum", x.restart(23), false);
        CHECK.due("24 play", x.play(), 's');
        x.win(1, 8);
        CHECK.due("24 its place", x.placeOf(1, 8), 35);
        x.kickOut(45, true);
        CHECK.due("24 lineout", x.restart(16), false);
        CHECK.due("24 play", x.play(), 'l');
        x.win(1, 9);
        CHECK.due("24 its place", x.placeOf(1, 9), 45);
    }

    private static void restartByTap() {
        for (char kind : new char[] {'p', 'f'}) {
            Scrumward x = Match.given(1, kind, 35);
            CHECK.due("24 at once", x.restart(9), true);
            CHECK.due("24 place", x.placeOf(1, 9), 35);
            x.carry(30);
            CHECK.due("24 carries", x.placeOf(1, 9), 30);
            CHECK.due("24 stands", x.placeOf(0, 9), 40);
        }
    }

    private static void restartErrors() {
        Scrumward x = Match.stopped(0);
        for (int player : new int[] {-1, 0, 24}) {
            CHECK.fails("24 player", IndexOutOfBoundsException.class, () -> x.restart(player));
            CHECK.fails("24 scrum", IndexOutOfBoundsException.class, () -> Match.given(0, 's', 5).restart(player));
        }
        CHECK.fails("24 bench", UnsupportedOperationException.class, () -> x.restart(16));
        CHECK.fails("24 bench", UnsupportedOperationException.class, () -> Match.given(0, 'p', 5).restart(16));
        x.card(1, 5, 'y');
        CHECK.fails("24 off", UnsupportedOperationException.class, () -> x.restart(5));
        x.card(0, 6, 'y');
        CHECK.due("24 the team that kicks does not matter", x.restart(6), true);
        CHECK.fails("24 new", IllegalStateException.class, () -> new Scrumward().restart(1));
        CHECK.fails("24 play goes on", IllegalStateException.class, () -> x.restart(16));
        CHECK.fails("24 conversion", IllegalStateException.class, () -> Match.conversion(0).restart(16));
        Scrumward y = Match.given(0, 'p', 50);
        y.choose('g', 0);
        CHECK.fails("24 kick at goal", IllegalStateException.class, () -> y.restart(1));
        CHECK.fails("24 first the player", IndexOutOfBoundsException.class, () -> y.restart(24));
    }

    private static void chosen(char kind, char what, int told, char want, int team, int place) {
        Scrumward x = Match.given(1, kind, 35);
        CHECK.due("25 " + kind + what, x.choose(what, told), want);
        CHECK.due("25 kind " + kind + what, x.toCome('k'), want);
        CHECK.due("25 team " + kind + what, x.toCome('t'), team);
        CHECK.due("25 place " + kind + what, x.toCome('p'), place);
        CHECK.due("25 decision " + kind + what, x.decision(x.decisions() - 1, 'k'), want);
    }

    private static void choose() {
        chosen('p', 'g', -7, 'g', 1, 35);
        chosen('p', 's', 101, 's', 1, 35);
        chosen('p', 't', 1, 'l', 1, 1);
        chosen('p', 't', 99, 'l', 1, 99);
        chosen('f', 's', 0, 's', 1, 35);
        chosen('f', 't', 20, 'l', 0, 20);
    }

    private static void chooseErrors() {
        CHECK.fails("25 what", IllegalArgumentException.class, () -> Match.given(0, 'p', 5).choose('l', 5));
        CHECK.fails("25 place 0", IllegalArgumentException.class, () -> Match.given(0, 'p', 5).choose('t', 0));
        CHECK.fails("25 place 100", IllegalArgumentException.class, () -> Match.given(0, 'p', 5).choose('t', 100));
        CHECK.fails("25 first what", IllegalArgumentException.class, () -> Match.stopped(0).choose('x', 5));
        CHECK.fails("25 first the place", IllegalArgumentException.class, () -> Match.stopped(0).choose('t', 0));
        CHECK.fails("25 kick-off", IllegalStateException.class, () -> Match.stopped(0).choose('s', 5));
        CHECK.fails("25 new", IllegalStateException.class, () -> new Scrumward().choose('g', 5));
        CHECK.fails("25 open", IllegalStateException.class, () -> Match.open(0, 50).choose('t', 5));
        CHECK.fails("25 scrum", IllegalStateException.class, () -> Match.given(0, 's', 5).choose('g', 5));
        CHECK.fails("25 free kick", UnsupportedOperationException.class, () -> Match.given(0, 'f', 5).choose('g', 5));
        Scrumward x = Match.given(0, 'p', 5);
        x.choose('g', 0);
        CHECK.fails("25 chosen", IllegalStateException.class, () -> x.choose('s', 0));
    }

    private static void kickAtGoal() {
        Scrumward x = Match.given(1, 'p', 35);
        x.choose('g', 0);
        CHECK.due("26 good", x.kick(true), 3);
        CHECK.due("26 kick-off", x.toCome('k'), 'k');
        CHECK.due("26 of the other team", x.toCome('t'), 0);
        CHECK.due("26 place", x.toCome('p'), 50);
        for (int team = 0; team < 2; team++) {
            Scrumward y = Match.given(team, 'p', 35);
            y.choose('g', 0);
            CHECK.due("26 missed", y.kick(false), 0);
            CHECK.due("26 drop-out", y.toCome('k'), 'd');
            CHECK.due("26 of the other team", y.toCome('t'), 1 - team);
            CHECK.due("26 22 from its own goal", y.toCome('p'), team == 0 ? 78 : 22);
        }
        CHECK.fails("26 new", IllegalStateException.class, () -> new Scrumward().kick(true));
        CHECK.fails("26 penalty", IllegalStateException.class, () -> Match.given(0, 'p', 5).kick(true));
        CHECK.fails("26 open", IllegalStateException.class, () -> Match.open(0, 5).kick(false));
        CHECK.fails("26 kicked", IllegalStateException.class, () -> x.kick(true));
    }

    private static void conversion() {
        for (int team = 0; team < 2; team++) {
            Scrumward x = Match.conversion(team);
            CHECK.due("26 good", x.kick(true), 7);
            CHECK.due("26 kick-off", x.toCome('k'), 'k');
            CHECK.due("26 of the other team", x.toCome('t'), 1 - team);
            Scrumward y = Match.conversion(team);
            CHECK.due("26 missed", y.kick(false), 5);
            CHECK.due("26 kick-off", y.toCome('k'), 'k');
            CHECK.due("26 of the other team", y.toCome('t'), 1 - team);
            CHECK.due("26 place", y.toCome('p'), 50);
        }
    }

    private static void kickClocks() {
        Scrumward x = Match.conversion(1);
        x.pass(45);
        CHECK.due("8 stands", x.pass(45), 0);
        CHECK.due("8 90 seconds", x.toCome('k'), 'c');
        x.pass(1);
        CHECK.due("8 91 seconds", x.toCome('k'), 'k');
        CHECK.due("8 of the other team", x.toCome('t'), 0);
        CHECK.due("36 missed", x.decision(x.decisions() - 2, 'k'), 'm');
        Scrumward y = Match.given(1, 'p', 35);
        y.pass(100);
        CHECK.due("8 a penalty waits", y.toCome('k'), 'p');
        y.choose('g', 0);
        y.pass(60);
        CHECK.due("8 60 seconds", y.toCome('k'), 'g');
        y.pass(1);
        CHECK.due("8 61 seconds", y.toCome('k'), 'd');
        CHECK.due("8 of the other team", y.toCome('t'), 0);
        y.pass(600);
        CHECK.due("8 a drop-out waits", y.toCome('k'), 'd');
        Scrumward z = Match.conversion(0);
        z.pass(90);
        z.kick(true);
        z.restart(8);
        z.carry(100);
        z.ground();
        z.pass(90);
        CHECK.due("8 each conversion has its own", z.toCome('k'), 'c');
    }

    private static void reset() {
        Scrumward x = Match.scrum(1, 35);
        CHECK.due("27 first", x.reset(), 's');
        CHECK.due("27 goes on", x.play(), 's');
        CHECK.due("27 second", x.reset(), 's');
        CHECK.due("27 third", x.reset(), 'f');
        CHECK.due("27 team", x.toCome('t'), 1);
        CHECK.due("27 place", x.toCome('p'), 35);
        CHECK.due("27 stopped", x.play(), 'x');
        x.choose('s', 0);
        x.restart(1);
        CHECK.due("27 anew", x.reset(), 's');
        CHECK.due("27 anew", x.reset(), 's');
        CHECK.due("27 and the third", x.reset(), 'f');
        Scrumward v = Match.open(0, 35);
        v.offend(0, 's', true);
        v.blow();
        v.restart(1);
        v.reset();
        v.reset();
        v.reset();
        CHECK.due("27 whose scrum it is, not whose ball it was", v.toCome('t'), 1);
        CHECK.fails("27 new", IllegalStateException.class, () -> new Scrumward().reset());
        CHECK.fails("27 to come", IllegalStateException.class, () -> Match.given(0, 's', 5).reset());
        CHECK.fails("27 ruck", IllegalStateException.class, () -> Match.ruck(0, 5).reset());
        CHECK.fails("27 open", IllegalStateException.class, () -> Match.open(0, 5).reset());
        Scrumward y = Match.scrum(0, 35);
        y.pass(600);
        Match.passAll(y, 1800);
        y.reset();
        y.reset();
        CHECK.due("27 a free kick does not end a period", y.reset(), 'f');
        CHECK.due("27 on", y.period(), 0);
    }

    private static void resetBroughtBack() {
        Scrumward x = Match.scrum(1, 35);
        x.reset();
        x.reset();
        x.offend(1, 'p', true);
        CHECK.due("27 brought back", x.reset(), 'p');
        CHECK.due("27 its team", x.toCome('t'), 0);
        Scrumward y = Match.scrum(1, 35);
        y.reset();
        y.reset();
        y.offend(1, 's', true);
        y.pass(1);
        Match.passAll(y, 14);
        CHECK.due("27 none any more", y.reset(), 'f');
        Scrumward z = Match.scrum(1, 35);
        Match.passAll(z, 2400);
        z.reset();
        z.reset();
        z.offend(1, 's', true);
        CHECK.due("27 ends", z.reset(), 'e');
    }

    private static void review() {
        Scrumward x = Match.open(0, 95);
        x.offend(1, 's', false);
        x.offend(0, 'f', false);
        x.carry(100);
        x.offend(0, 'p', false);
        x.ground();
        CHECK.due("28 the first one of the team", x.review(), 'f');
        CHECK.due("28 its team", x.toCome('t'), 1);
        CHECK.due("28 its place", x.toCome('p'), 95);
        CHECK.due("28 no try", x.points(0), 0);
        CHECK.fails("28 no conversion", IllegalStateException.class, x::review);
        Scrumward y = Match.open(0, 100);
        y.offend(1, 'p', false);
        y.ground();
        CHECK.due("28 the other team's", y.review(), 'c');
        CHECK.due("28 stands", y.points(0), 5);
        CHECK.due("28 team", y.toCome('t'), 0);
        CHECK.fails("28 once", IllegalStateException.class, y::review);
        CHECK.due("28 conversion", y.kick(true), 7);
        y.restart(9);
        y.carry(100);
        y.ground();
        CHECK.due("28 another try", y.review(), 'c');
        CHECK.fails("28 new", IllegalStateException.class, () -> new Scrumward().review());
        CHECK.fails("28 penalty", IllegalStateException.class, () -> Match.given(0, 'p', 5).review());
        Scrumward z = Match.conversion(1);
        z.pass(50);
        z.review();
        z.pass(41);
        CHECK.due("28 its clock goes on", z.toCome('k'), 'k');
    }

    /** The team 0 has won so many rucks since play was stopped. */
    private static void winRucks(Scrumward x, int count) {
        for (int i = 0; i < count; i++) {
            x.tackle(7);
            x.win(0, i % 2 == 0 ? 9 : 8);
        }
    }

    private static void reviewOfPhases() {
        for (int since = 0; since < 4; since++) {
            Scrumward x = Match.open(0, 50);
            winRucks(x, 2);
            x.offend(0, 's', false);
            winRucks(x, since);
            x.carry(100);
            while (x.offend(0, 'p', false) > 0) {
                x.pass(30);
            }
            x.ground();
            CHECK.due("28 phases ago " + since, x.review(), since < 2 ? 's' : 'p');
        }
        Scrumward y = Match.open(0, 50);
        y.offend(0, 'p', false);
        winRucks(y, 2);
        y.pass(30);
        y.carry(100);
        y.ground();
        CHECK.due("28 too long ago", y.review(), 'c');
    }

    private static void reviewOfStretches() {
        Scrumward x = Match.open(0, 50);
        x.offend(0, 'p', false);
        x.kickOut(60, true);
        x.restart(1);
        x.win(0, 8);
        x.carry(100);
        x.ground();
        CHECK.due("28 told ahead of the stop", x.review(), 'c');
        Scrumward y = Match.scrum(0, 50);
        y.offend(0, 'p', false);
        y.win(0, 8);
        y.carry(100);
        y.ground();
        CHECK.due("28 told in the scrum", y.review(), 'p');
        CHECK.due("28 its place", y.toCome('p'), 50);
    }

    private static void reviewEnds() {
        Scrumward x = Match.open(0, 100);
        Match.passAll(x, 2400);
        x.offend(0, 's', false);
        x.ground();
        CHECK.due("28 ends", x.review(), 'e');
        CHECK.due("28 no points", x.points(0), 0);
        CHECK.due("28 no period", x.period(), -1);
    }
}
