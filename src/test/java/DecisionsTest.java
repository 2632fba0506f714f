/** Promises 35 to 42: decisions, points, shares and means. */
public final class DecisionsTest {
    private static final Check CHECK = new Check("DecisionsTest");

    public static void main(String[] args) {
        list();
        places();
        decisionErrors();
        points();
        leaguePoints();
        leagueErrors();
        share();
        seconds();
        meanPhases();
        consistent();
        CHECK.end();
    }

    private static String kinds(Scrumward x) {
        StringBuilder text = new StringBuilder();
        for (int i = 0; i < x.decisions(); i++) {
            text.append((char) x.decision(i, 'k'));
        }
        return text.toString();
    }

    private static String row(Scrumward x, int index) {
        return (char) x.decision(index, 'k') + " " + x.decision(index, 't') + " " + x.decision(index, 'p') + " "
                + x.decision(index, 's');
    }

    private static void list() {
        CHECK.due("35 new", new Scrumward().decisions(), 0);
        Scrumward x = Match.open(0, 100);
        x.pass(7);
        x.ground();
        x.kick(true);
        CHECK.dueText("36 a try and its conversion", kinds(x), "ktcCk");
        x.restart(8);
        x.carry(100);
        x.ground();
        x.pass(91);
        CHECK.dueText("36 a missed one", kinds(x), "ktcCktcmk");
        x.restart(8);
        x.offend(1, 'p', true);
        x.blow();
        x.choose('g', 0);
        x.kick(true);
        CHECK.dueText("36 a kick at goal", kinds(x), "ktcCktcmkpgGk");
        x.restart(8);
        Match.passAll(x, 2400);
        x.kickOut(50, true);
        CHECK.dueText("36 the end", kinds(x), "ktcCktcmkpgGkle");
        Scrumward y = Match.open(0, 100);
        y.offend(0, 'f', false);
        y.ground();
        y.review();
        CHECK.dueText("36 a try that does not stand", kinds(y), "ktcnf");
        Scrumward z = Match.open(0, 100);
        z.offend(0, 'f', true);
        z.ground();
        CHECK.dueText("36 brought back instead of a try", kinds(z), "kf");
        z.restart(8);
        z.tackle(7);
        z.win(0, 9);
        CHECK.dueText("36 what goes on adds none", kinds(z), "kf");
        z.offend(0, 's', true);
        z.blow();
        z.restart(1);
        z.reset();
        CHECK.dueText("36 a scrum set anew adds none", kinds(z), "kfs");
    }

    private static void places() {
        Scrumward x = Match.open(0, 100);
        x.pass(7);
        x.offend(0, 'f', false);
        x.ground();
        x.pass(50);
        x.review();
        CHECK.dueText("36 kick-off", row(x, 0), "k 1 50 0");
        CHECK.dueText("36 try", row(x, 1), "t 0 100 7");
        CHECK.dueText("36 conversion", row(x, 2), "c 0 100 7");
        CHECK.dueText("36 no try", row(x, 3), "n 0 100 7");
        CHECK.dueText("36 free kick", row(x, 4), "f 1 100 7");
        Scrumward y = Match.given(1, 'p', 30);
        y.choose('g', 0);
        y.kick(true);
        CHECK.dueText("36 penalty", row(y, 1), "p 1 30 0");
        CHECK.dueText("36 kick at goal", row(y, 2), "g 1 30 0");
        CHECK.dueText("36 good", row(y, 3), "G 1 30 0");
        CHECK.dueText("36 kick-off", row(y, 4), "k 0 50 0");
        Scrumward z = Match.conversion(1);
        z.kick(true);
        CHECK.dueText("36 conversion good", row(z, 3), "C 1 0 0");
        z.restart(8);
        Match.passAll(z, 2500);
        z.carry(100);
        z.ground();
        CHECK.dueText("36 drop-out", row(z, z.decisions() - 2), "d 1 78 2500");
        CHECK.dueText("36 the end", row(z, z.decisions() - 1), "e -1 -1 2500");
        z.begin(1);
        z.card(1, 5, 'b');
        CHECK.dueText("36 a card", row(z, z.decisions() - 1), "b 1 -1 2500");
        Scrumward v = Match.conversion(1);
        v.kick(false);
        CHECK.dueText("36 conversion missed", row(v, 3), "m 1 0 0");
    }

    private static void decisionErrors() {
        Scrumward x = new Scrumward();
        CHECK.fails("36 none", IndexOutOfBoundsException.class, () -> x.decision(0, 'k'));
        x.begin(0);
        for (int index : new int[] {-1, 1, Integer.MAX_VALUE, Integer.MIN_VALUE}) {
            CHECK.fails("36 index", IndexOutOfBoundsException.class, () -> x.decision(index, 'z'));
        }
        for (char what : new char[] {'K', 'x', 0}) {
            CHECK.fails("36 what", IllegalArgumentException.class, () -> x.decision(0, what));
        }
        CHECK.due("35 one", x.decisions(), 1);
    }

    private static void points() {
        Scrumward x = Match.conversion(0);
        CHECK.due("37 try", x.points(0), 5);
        x.kick(true);
        CHECK.due("37 conversion", x.points(0), 7);
        x.restart(8);
        x.offend(0, 'p', true);
        x.blow();
        x.choose('g', 0);
        x.kick(true);
        CHECK.due("37 penalty goal", x.points(1), 3);
        CHECK.due("37 stays", x.points(0), 7);
        for (int team : new int[] {-1, 2, Integer.MAX_VALUE, Integer.MIN_VALUE}) {
            CHECK.fails("37 team", IndexOutOfBoundsException.class, () -> x.points(team));
            CHECK.fails("38 team", IndexOutOfBoundsException.class, () -> x.leaguePoints(team));
            CHECK.fails("39 team", IndexOutOfBoundsException.class, () -> x.share(team));
        }
    }

    /** A match with so many tries of a team without conversions, then so many converted ones of the other one. */
    private static Scrumward match(int tries, int goals) {
        Scrumward x = new Scrumward();
        x.begin(0);
        for (int i = 0; i < tries; i++) {
            take(x, 0);
            x.carry(100);
            x.ground();
            x.kick(false);
        }
        for (int i = 0; i < goals; i++) {
            take(x, 1);
            x.offend(0, 'p', true);
            x.blow();
            x.choose('g', 0);
            x.kick(true);
        }
        Match.playAndStop(x, 2400);
        x.begin(0);
        Match.playAndStop(x, 2400);
        return x;
    }

    /** From a kick-off, the team has the ball. */
    private static void take(Scrumward x, int team) {
        int catcher = 1 - x.toCome('t');
        x.restart(11);
        if (catcher != team) {
            x.lose(11, false);
            if (x.carry(50) > 0) {
                x.pass(30);
            }
        }
    }

    private static void league(String what, int tries, int goals, int first, int second) {
        Scrumward x = match(tries, goals);
        CHECK.due("38 over, " + what, x.isOver(), true);
        CHECK.due("37 first, " + what, x.points(0), 5 * tries);
        CHECK.due("37 second, " + what, x.points(1), 3 * goals);
        CHECK.due("38 first, " + what, x.leaguePoints(0), first);
        CHECK.due("38 second, " + what, x.leaguePoints(1), second);
    }

    private static void leaguePoints() {
        league("nothing", 0, 0, 2, 2);
        league("15 to 15", 3, 5, 2, 2);
        league("15 to 9", 3, 3, 4, 1);
        league("10 to 3", 2, 1, 4, 1);
        league("5 to 12", 1, 4, 1, 4);
        league("5 to 15", 1, 5, 0, 4);
        league("20 to 12", 4, 4, 5, 0);
        league("20 to 21", 4, 7, 2, 4);
        league("20 to 30", 4, 10, 1, 4);
        league("30 to 30", 6, 10, 3, 2);
    }

    private static void leagueErrors() {
        CHECK.fails("38 new", IllegalStateException.class, () -> new Scrumward().leaguePoints(0));
        CHECK.fails("38 on", IllegalStateException.class, () -> Match.stopped(0).leaguePoints(0));
        Scrumward x = Match.stopped(0);
        Match.playAndStop(x, 2400);
        CHECK.fails("38 one follows", IllegalStateException.class, () -> x.leaguePoints(0));
        Scrumward y = Match.stopped(0);
        for (int i = 0; i < 4; i++) {
            take(y, 0);
            y.carry(100);
            if (i == 0) {
                y.offend(0, 'p', false);
            }
            y.ground();
            if (y.review() == 'c') {
                y.kick(false);
            } else {
                y.choose('g', 0);
                y.pass(61);
            }
        }
        Match.playAndStop(y, 2400);
        y.begin(0);
        Match.playAndStop(y, 2400);
        CHECK.due("38 a try that does not stand is none", y.leaguePoints(0), 4);
        CHECK.due("37 nor its points", y.points(0), 15);
    }

    private static void share() {
        CHECK.fails("39 new", ArithmeticException.class, () -> new Scrumward().share(0));
        Scrumward x = Match.open(0, 50);
        CHECK.fails("39 no seconds", ArithmeticException.class, () -> x.share(0));
        CHECK.fails("39 first the team", IndexOutOfBoundsException.class, () -> x.share(2));
        x.pass(2);
        CHECK.dueDouble("39 all", x.share(0), 1.0f);
        CHECK.dueDouble("39 none", x.share(1), 0.0f);
        x.tackle(7);
        x.pass(1);
        CHECK.dueDouble("39 a ruck is of none", x.share(0), 2.0f / 3.0f);
        x.win(1, 9);
        x.pass(4);
        CHECK.dueDouble("39 the other team", x.share(1), 4.0f / 7.0f);
        CHECK.dueDouble("39 the one", x.share(0), 2.0f / 7.0f);
        x.kickOut(50, true);
        x.pass(600);
        CHECK.dueDouble("39 none while stopped", x.share(0), 2.0f / 7.0f);
        x.restart(1);
        x.pass(3);
        CHECK.dueDouble("39 a lineout", x.share(0), 2.0f / 10.0f);
    }

    private static void seconds() {
        Scrumward x = new Scrumward();
        CHECK.due("40 new", x.secondsOfPlay(), 0);
        x.begin(0);
        x.pass(5);
        CHECK.due("40 stopped", x.secondsOfPlay(), 0);
        Match.playAndStop(x, 2401);
        CHECK.due("40 first", x.secondsOfPlay(), 2401);
        x.begin(0);
        x.restart(8);
        x.pass(9);
        CHECK.due("40 over all periods", x.secondsOfPlay(), 2410);
    }

    private static void meanPhases() {
        Scrumward x = Match.ruck(0, 50);
        CHECK.fails("41 no stops", ArithmeticException.class, x::meanPhases);
        x.win(0, 9);
        CHECK.fails("41 still none", ArithmeticException.class, x::meanPhases);
        x.tackle(7);
        x.win(0, 8);
        x.tackle(7);
        x.win(0, 9);
        x.offend(1, 'p', true);
        x.blow();
        CHECK.dueDouble("41 one stop", x.meanPhases(), 3.0);
        x.choose('t', 20);
        CHECK.dueDouble("41 a choice is none", x.meanPhases(), 3.0);
        x.restart(1);
        x.win(0, 2);
        CHECK.dueDouble("41 each phase counts", x.meanPhases(), 4.0);
        x.kickOut(90, true);
        CHECK.dueDouble("41 two stops", x.meanPhases(), 2.0);
        x.restart(1);
        x.offend(1, 's', true);
        x.blow();
        CHECK.dueDouble("41 three stops", x.meanPhases(), 4.0 / 3.0);
    }

    private static void consistent() {
        CHECK.due("42 new", new Scrumward().isConsistent(), true);
        CHECK.due("42 stopped", Match.stopped(0).isConsistent(), true);
        CHECK.due("42 open", Match.open(0, 50).isConsistent(), true);
        CHECK.due("42 ruck", Match.ruck(1, 50).isConsistent(), true);
        CHECK.due("42 scrum", Match.scrum(1, 50).isConsistent(), true);
        CHECK.due("42 conversion", Match.conversion(1).isConsistent(), true);
        CHECK.due("42 over", match(1, 1).isConsistent(), true);
    }
}
