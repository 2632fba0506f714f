/** Promises 14 to 23: open play, rucks, offences and stops. */
public final class OpenPlayTest {
    private static final Check CHECK = new Check("OpenPlayTest");

    public static void main(String[] args) {
        carry();
        advantageByGain();
        advantageBySeconds();
        advantageLookedAt();
        throwTo();
        lose();
        tackle();
        join();
        win();
        winErrors();
        offend();
        blow();
        kickOut();
        kickOutBroughtBack();
        ground();
        groundBroughtBack();
        CHECK.end();
    }

    private static void carry() {
        Scrumward x = Match.open(0, 50);
        CHECK.due("14 none open", x.carry(0), 0);
        CHECK.due("14 place", x.placeOf(0, 8), 0);
        x.carry(100);
        CHECK.due("14 place then", x.placeOf(0, 8), 100);
        for (int place : new int[] {-1, 101, Integer.MIN_VALUE, Integer.MAX_VALUE}) {
            CHECK.fails("14 place", IllegalArgumentException.class, () -> x.carry(place));
        }
        CHECK.fails("14 stopped", IllegalStateException.class, () -> Match.stopped(0).carry(5));
        CHECK.fails("14 first the place", IllegalArgumentException.class, () -> Match.stopped(0).carry(101));
        CHECK.fails("14 ruck", IllegalStateException.class, () -> Match.ruck(0, 50).carry(5));
    }

    private static void advantageByGain() {
        for (char kind : new char[] {'p', 'f'}) {
            Scrumward x = Match.open(0, 50);
            x.offend(1, kind, true);
            CHECK.due("14 gain 14", x.carry(64), 1);
            CHECK.due("14 gain 15", x.carry(65), 0);
            CHECK.due("14 over for good", x.carry(50), 0);
        }
        Scrumward y = Match.open(1, 50);
        y.offend(0, 's', true);
        CHECK.due("14 the other way", y.carry(60), 1);
        CHECK.due("14 gain 7", y.carry(43), 1);
        CHECK.due("14 gain 8", y.carry(42), 0);
        Scrumward z = Match.open(1, 50);
        z.offend(1, 'p', true);
        CHECK.due("14 the other team has the ball", z.carry(80), 1);
        z.setPlace(0, 7, 65);
        CHECK.due("16 not offside", z.lose(7, false), false);
        CHECK.due("16 over by the loss", z.carry(50), 0);
    }

    private static void advantageBySeconds() {
        Scrumward x = Match.open(0, 50);
        x.offend(1, 'p', true);
        x.offend(1, 'f', true);
        x.offend(0, 's', true);
        x.pass(14);
        CHECK.due("8 14 seconds", x.carry(50), 3);
        x.pass(1);
        CHECK.due("8 15 seconds", x.carry(50), 2);
        x.pass(14);
        CHECK.due("8 29 seconds", x.carry(50), 2);
        x.pass(1);
        CHECK.due("8 30 seconds", x.carry(50), 0);
        Scrumward y = Match.ruck(0, 50);
        y.pass(100);
        y.offend(1, 'p', true);
        y.pass(29);
        CHECK.due("8 29 seconds of a ruck", y.offend(1, 's', false), 1);
        y.pass(1);
        CHECK.fails("8 30 seconds of a ruck", IllegalStateException.class, y::blow);
    }

    /** An advantage whose gain is there is over only when it is looked at. */
    private static void advantageLookedAt() {
        Scrumward x = Match.open(1, 60);
        x.offend(1, 'p', true);
        x.carry(80);
        x.setPlace(0, 7, 80);
        x.tackle(7);
        CHECK.due("17 the ball is ahead, but not theirs", x.offend(1, 's', false), 1);
        x.win(0, 9);
        CHECK.due("19 won ahead", x.offend(1, 's', false), 0);
        Scrumward y = Match.open(1, 60);
        y.offend(1, 'p', true);
        y.carry(80);
        y.setPlace(0, 7, 80);
        y.tackle(7);
        y.pass(29);
        CHECK.due("8 a ruck ahead is not over", y.offend(1, 's', false), 1);
        Scrumward z = Match.open(0, 50);
        z.offend(1, 'p', true);
        z.setPlace(0, 9, 65);
        CHECK.due("15 thrown ahead", z.throwTo(9), true);
        CHECK.due("15 over by the throw", z.offend(1, 's', false), 1);
        Scrumward v = Match.open(1, 50);
        v.setPlace(0, 7, 58);
        v.lose(7, true);
        CHECK.due("16 a new one is over at once", v.offend(1, 's', false), 1);
        CHECK.due("16 the other one is left", v.blow(), 'p');
        CHECK.due("16 and is for the other team", v.toCome('t'), 1);
    }

    private static void throwTo() {
        Scrumward x = Match.open(0, 50);
        x.setPlace(0, 9, 50);
        CHECK.due("15 level", x.throwTo(9), false);
        CHECK.due("15 behind", x.throwTo(10), false);
        CHECK.due("15 the one before is free", x.setPlace(0, 9, 41), 50);
        CHECK.due("15 ahead", x.throwTo(9), true);
        CHECK.due("15 an advantage", x.offend(0, 'p', false), 1);
        CHECK.due("15 for a scrum", x.blow(), 's');
        CHECK.due("15 for the other team", x.toCome('t'), 1);
        CHECK.due("15 from which it was thrown", x.toCome('p'), 40);
        Scrumward y = Match.open(1, 50);
        y.setPlace(1, 9, 51);
        CHECK.due("15 behind, the team 1", y.throwTo(9), false);
        CHECK.due("15 ahead, the team 1", y.throwTo(8), true);
        y.carry(20);
        y.blow();
        CHECK.due("15 place, the team 1", y.toCome('p'), 51);
        throwErrors();
    }

    private static void throwErrors() {
        Scrumward x = Match.open(0, 50);
        for (int player : new int[] {-1, 0, 24, Integer.MAX_VALUE}) {
            CHECK.fails("15 player", IndexOutOfBoundsException.class, () -> x.throwTo(player));
            CHECK.fails("16 player", IndexOutOfBoundsException.class, () -> x.lose(player, true));
            CHECK.fails("17 player", IndexOutOfBoundsException.class, () -> x.tackle(player));
        }
        CHECK.fails("15 bench", UnsupportedOperationException.class, () -> x.throwTo(16));
        CHECK.fails("15 the one who has it", UnsupportedOperationException.class, () -> x.throwTo(8));
        CHECK.fails("16 bench", UnsupportedOperationException.class, () -> x.lose(16, true));
        CHECK.fails("17 bench", UnsupportedOperationException.class, () -> x.tackle(16));
        Scrumward y = Match.stopped(0);
        CHECK.fails("15 stopped", IllegalStateException.class, () -> y.throwTo(16));
        CHECK.fails("16 stopped", IllegalStateException.class, () -> y.lose(16, true));
        CHECK.fails("17 stopped", IllegalStateException.class, () -> y.tackle(16));
        CHECK.fails("15 first the player", IndexOutOfBoundsException.class, () -> y.throwTo(0));
        CHECK.fails("16 first the player", IndexOutOfBoundsException.class, () -> y.lose(0, true));
        CHECK.fails("17 first the player", IndexOutOfBoundsException.class, () -> y.tackle(0));
        Scrumward z = Match.ruck(0, 50);
        CHECK.fails("15 ruck", IllegalStateException.class, () -> z.throwTo(9));
        CHECK.fails("16 ruck", IllegalStateException.class, () -> z.lose(9, true));
        CHECK.fails("17 ruck", IllegalStateException.class, () -> z.tackle(9));
    }

    private static void lose() {
        Scrumward x = Match.open(0, 50);
        CHECK.due("16 not offside", x.lose(7, false), false);
        CHECK.due("16 no advantage", x.carry(70), 0);
        CHECK.due("16 the new one has it", x.placeOf(1, 7), 70);
        CHECK.due("16 the old one does not", x.placeOf(0, 8), 50);
        Scrumward y = Match.open(0, 50);
        CHECK.due("16 knocked on", y.lose(7, true), false);
        CHECK.due("16 one open", y.carry(60), 1);
        y.blow();
        CHECK.due("16 a scrum", y.toCome('k'), 's');
        CHECK.due("16 its team", y.toCome('t'), 1);
        CHECK.due("16 its place", y.toCome('p'), 50);
        Scrumward z = Match.open(0, 50);
        z.setPlace(1, 7, 45);
        CHECK.due("16 offside", z.lose(7, false), true);
        CHECK.due("16 a penalty", z.blow(), 'p');
        CHECK.due("16 its team", z.toCome('t'), 0);
        CHECK.due("16 where the ball is then", z.toCome('p'), 45);
        Scrumward v = Match.open(0, 50);
        v.setPlace(1, 7, 45);
        CHECK.due("16 both", v.lose(7, true), true);
        CHECK.due("16 two open", v.carry(50), 2);
        CHECK.due("16 the knock-on first", v.blow(), 's');
    }

    private static void tackle() {
        Scrumward x = Match.open(0, 50);
        CHECK.due("17 not offside", x.tackle(7), false);
        CHECK.due("17 a ruck", x.play(), 'r');
        CHECK.due("17 at the ball", x.placeOf(1, 7), 50);
        CHECK.fails("17 both are in it", UnsupportedOperationException.class, () -> x.join(0, 8));
        CHECK.fails("17 the tackler", UnsupportedOperationException.class, () -> x.join(1, 7));
        CHECK.due("17 no advantage", x.offend(0, 's', false), 0);
        Scrumward y = Match.open(1, 30);
        CHECK.due("17 offside", y.tackle(7), true);
        CHECK.due("17 at the ball all the same", y.placeOf(0, 7), 30);
        CHECK.due("17 an advantage", y.blow(), 'p');
        CHECK.due("17 its team", y.toCome('t'), 1);
        CHECK.due("17 its place", y.toCome('p'), 30);
    }

    private static void join() {
        Scrumward x = Match.ruck(0, 50);
        CHECK.due("18 behind", x.join(0, 1), false);
        CHECK.due("18 without another place", x.placeOf(0, 1), 40);
        CHECK.due("18 ahead of the new line", x.join(0, 9) || x.isOffside(0, 9), false);
        x.setPlace(0, 10, 41);
        CHECK.due("18 offside", x.join(0, 10), true);
        CHECK.due("18 an advantage", x.offend(0, 's', false), 1);
        x.setPlace(1, 10, 49);
        CHECK.due("18 offside, the team 1", x.join(1, 10), true);
        CHECK.due("18 a penalty", x.blow(), 'p');
        CHECK.due("18 its team", x.toCome('t'), 1);
        CHECK.due("18 at the ball", x.toCome('p'), 50);
        Scrumward y = Match.ruck(0, 50);
        for (int team : new int[] {-1, 2}) {
            CHECK.fails("18 team", IndexOutOfBoundsException.class, () -> y.join(team, 1));
        }
        for (int player : new int[] {-1, 0, 24}) {
            CHECK.fails("18 player", IndexOutOfBoundsException.class, () -> y.join(0, player));
        }
        CHECK.fails("18 bench", UnsupportedOperationException.class, () -> y.join(0, 16));
        CHECK.fails("18 no ruck", IllegalStateException.class, () -> Match.open(0, 50).join(0, 16));
        CHECK.fails("18 scrum", IllegalStateException.class, () -> Match.scrum(0, 50).join(0, 1));
        CHECK.fails("18 first the player", IndexOutOfBoundsException.class, () -> Match.open(0, 50).join(0, 24));
    }

    private static void win() {
        Scrumward x = Match.ruck(0, 50);
        x.join(0, 1);
        CHECK.due("19 first", x.win(1, 9), 1);
        CHECK.due("19 open", x.play(), 'o');
        CHECK.due("19 at the ball", x.placeOf(1, 9), 50);
        x.carry(45);
        CHECK.due("19 carries", x.placeOf(1, 9), 45);
        x.setPlace(0, 8, 45);
        x.tackle(8);
        CHECK.due("19 second", x.win(0, 10), 2);
        x.kickOut(60, true);
        x.restart(1);
        CHECK.due("19 a lineout, from 0 on", x.win(0, 2), 1);
        CHECK.due("19 at the lineout", x.placeOf(0, 2), 60);
        Scrumward y = Match.scrum(1, 33);
        CHECK.due("19 a scrum", y.win(0, 9), 1);
        CHECK.due("19 at the scrum", y.placeOf(0, 9), 33);
        Scrumward z = Match.ruck(0, 50);
        z.win(0, 9);
        z.carry(60);
        z.tackle(10);
        CHECK.due("19 those of the ruck before are free", z.win(0, 8), 2);
        for (int team = 0; team < 2; team++) {
            Scrumward v = Match.ruck(0, 50);
            v.setPlace(0, 1, 41);
            v.join(0, 1);
            v.join(1, 1);
            v.setPlace(team, 2, team == 0 ? 42 : 58);
            CHECK.due("5 the player 1 is in it", v.isOffside(team, 2), true);
            v.offend(0, 'p', true);
            v.blow();
            CHECK.due("3 the player 1 is free", v.setPlace(team, 1, 50), team == 0 ? 41 : 60);
            CHECK.due("3 the player 8 or 7 too", v.setPlace(team, 8 - team, 50), 50);
        }
    }

    private static void winErrors() {
        Scrumward x = Match.ruck(0, 50);
        x.join(0, 1);
        for (int team : new int[] {-1, 2}) {
            CHECK.fails("19 team", IndexOutOfBoundsException.class, () -> x.win(team, 1));
        }
        for (int player : new int[] {-1, 0, 24}) {
            CHECK.fails("19 player", IndexOutOfBoundsException.class, () -> x.win(0, player));
        }
        CHECK.fails("19 bench", UnsupportedOperationException.class, () -> x.win(0, 16));
        CHECK.fails("19 tackled", UnsupportedOperationException.class, () -> x.win(0, 8));
        CHECK.fails("19 tackler", UnsupportedOperationException.class, () -> x.win(1, 7));
        CHECK.fails("19 joined", UnsupportedOperationException.class, () -> x.win(0, 1));
        CHECK.fails("19 open", IllegalStateException.class, () -> Match.open(0, 50).win(0, 16));
        CHECK.fails("19 stopped", IllegalStateException.class, () -> Match.stopped(0).win(0, 1));
        CHECK.fails("19 first the player", IndexOutOfBoundsException.class, () -> Match.stopped(0).win(0, 24));
    }

    private static void offend() {
        Scrumward x = Match.scrum(0, 50);
        CHECK.due("20 seen", x.offend(0, 'p', true), 1);
        CHECK.due("20 not seen", x.offend(1, 'f', false), 1);
        CHECK.due("20 another one", x.offend(1, 's', true), 2);
        CHECK.due("20 the oldest", x.blow(), 'p');
        CHECK.due("20 for the other team", x.toCome('t'), 1);
        for (int team : new int[] {-1, 2}) {
            CHECK.fails("20 team", IndexOutOfBoundsException.class, () -> x.offend(team, 'z', true));
        }
        for (char kind : new char[] {'P', 'g', 'k', 0}) {
            CHECK.fails("20 kind", IllegalArgumentException.class, () -> x.offend(0, kind, true));
        }
        CHECK.fails("20 stopped", IllegalStateException.class, () -> x.offend(0, 'p', true));
        CHECK.fails("20 stopped, not seen", IllegalStateException.class, () -> x.offend(0, 'p', false));
        CHECK.fails("20 new", IllegalStateException.class, () -> new Scrumward().offend(0, 'p', true));
    }

    private static void blow() {
        Scrumward x = Match.open(1, 30);
        CHECK.fails("21 none open", IllegalStateException.class, x::blow);
        CHECK.fails("21 stopped", IllegalStateException.class, () -> Match.stopped(0).blow());
        x.offend(1, 'f', true);
        x.pass(10);
        x.carry(40);
        x.offend(0, 'p', true);
        CHECK.due("21 the oldest", x.blow(), 'f');
        CHECK.due("21 its team", x.toCome('t'), 0);
        CHECK.due("21 its place", x.toCome('p'), 30);
        CHECK.due("21 stopped", x.play(), 'x');
        x.restart(9);
        CHECK.due("21 all are over", x.carry(30), 0);
    }

    private static void kickOut() {
        lineout("not bounced", 0, 50, 70, false, 1, 50);
        lineout("not bounced, the team 1", 1, 50, 30, false, 0, 50);
        lineout("bounced", 0, 50, 77, true, 1, 77);
        lineout("22 from the own goal", 0, 22, 70, false, 1, 70);
        lineout("23 from the own goal", 0, 23, 70, false, 1, 23);
        lineout("22, the team 1", 1, 78, 30, false, 0, 30);
        lineout("23, the team 1", 1, 77, 30, false, 0, 77);
        lineout("own half", 0, 49, 78, true, 0, 78);
        lineout("out too early", 0, 49, 77, true, 1, 77);
        lineout("halfway", 0, 50, 78, true, 1, 78);
        lineout("own half, not bounced", 0, 49, 78, false, 1, 49);
        lineout("own 22, bounced", 0, 10, 99, true, 0, 99);
        lineout("own 22, not bounced", 0, 10, 99, false, 1, 99);
        lineout("own half, the team 1", 1, 51, 22, true, 1, 22);
        lineout("out too early, the team 1", 1, 51, 23, true, 0, 23);
        lineout("halfway, the team 1", 1, 50, 22, true, 0, 22);
        for (int place : new int[] {-1, 0, 100, 101}) {
            CHECK.fails("22 place", IllegalArgumentException.class, () -> Match.open(0, 50).kickOut(place, true));
            CHECK.fails("22 first the place", IllegalArgumentException.class, () -> Match.stopped(0).kickOut(place, true));
        }
        CHECK.fails("22 stopped", IllegalStateException.class, () -> Match.stopped(0).kickOut(50, true));
        CHECK.fails("22 ruck", IllegalStateException.class, () -> Match.ruck(0, 50).kickOut(50, true));
        CHECK.due("22 place 1", Match.open(0, 50).kickOut(1, true), 'l');
        CHECK.due("22 place 99", Match.open(0, 50).kickOut(99, true), 'l');
    }

    private static void lineout(String what, int team, int from, int to, boolean bounced, int forTeam, int at) {
        Scrumward x = Match.open(team, from);
        CHECK.due("22 " + what, x.kickOut(to, bounced), 'l');
        CHECK.due("22 kind, " + what, x.toCome('k'), 'l');
        CHECK.due("22 team, " + what, x.toCome('t'), forTeam);
        CHECK.due("22 place, " + what, x.toCome('p'), at);
    }

    private static void kickOutBroughtBack() {
        Scrumward x = Match.open(0, 30);
        x.offend(1, 's', true);
        x.offend(0, 'p', true);
        CHECK.due("22 brought back", x.kickOut(60, true), 's');
        CHECK.due("22 its team", x.toCome('t'), 0);
        CHECK.due("22 its place", x.toCome('p'), 30);
        CHECK.due("22 one decision", x.decisions(), 2);
        Scrumward y = Match.open(0, 30);
        y.offend(0, 'p', true);
        CHECK.due("22 brought back to the other team's", y.kickOut(60, true), 'p');
        CHECK.due("22 whose", y.toCome('t'), 1);
    }

    private static void ground() {
        for (int team = 0; team < 2; team++) {
            Scrumward x = Match.open(team, Match.goal(team));
            CHECK.due("23 a try", x.ground(), 'c');
            CHECK.due("23 points", x.points(team), 5);
            CHECK.due("23 none for the other team", x.points(1 - team), 0);
            CHECK.due("23 team", x.toCome('t'), team);
            CHECK.due("23 place", x.toCome('p'), Match.goal(team));
            Scrumward y = Match.open(team, Match.goal(1 - team));
            CHECK.due("23 a drop-out", y.ground(), 'd');
            CHECK.due("23 its team", y.toCome('t'), team);
            CHECK.due("23 its place", y.toCome('p'), team == 0 ? 22 : 78);
            CHECK.due("23 no points", y.points(0) + y.points(1), 0);
        }
        for (int place : new int[] {1, 50, 99}) {
            CHECK.fails("23 no goal", UnsupportedOperationException.class, () -> Match.open(0, place).ground());
            CHECK.fails("23 no goal", UnsupportedOperationException.class, () -> Match.open(1, place).ground());
        }
        CHECK.fails("23 stopped", IllegalStateException.class, () -> Match.stopped(0).ground());
        CHECK.fails("23 ruck", IllegalStateException.class, () -> Match.ruck(0, 100).ground());
    }

    private static void groundBroughtBack() {
        Scrumward x = Match.open(0, 100);
        x.offend(1, 'p', true);
        x.offend(0, 'f', true);
        x.offend(0, 'p', true);
        CHECK.due("23 the oldest for the other team", x.ground(), 'f');
        CHECK.due("23 whose", x.toCome('t'), 1);
        CHECK.due("23 no try", x.points(0), 0);
        Scrumward y = Match.open(0, 100);
        y.offend(1, 'p', true);
        CHECK.due("23 only for the own one", y.ground(), 'c');
        CHECK.due("23 the try stands", y.points(0), 5);
        y.pass(1);
        y.kick(false);
        y.restart(9);
        CHECK.due("23 all are over", y.carry(70), 0);
        Scrumward z = Match.open(0, 0);
        z.offend(1, 's', true);
        z.offend(0, 'p', true);
        CHECK.due("23 a drop-out is brought back to the oldest", z.ground(), 's');
        CHECK.due("23 for the own team", z.toCome('t'), 0);
    }
}
