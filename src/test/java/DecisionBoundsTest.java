/** Decisions, points, shares and means; a test for each sentence that names a boundary. */
public final class DecisionBoundsTest {
    private static final Check CHECK = new Check("DecisionBoundsTest");

    public static void main(String[] args) {
        rowsOfPlay();
        rowsOfKicks();
        rowsOfReviews();
        rowsOfCards();
        rowsOfEnds();
        whatIsNoDecision();
        refusedCallsAreNone();
        wins();
        draws();
        lossesBySeven();
        fourTries();
        triesThatDoNotStand();
        leagueOnlyWhenOver();
        shares();
        sharesAreFloats();
        means();
        longestMatch();
        CHECK.end();
    }

    /** The last rows of the list, the oldest first. */
    private static void rows(String what, Scrumward x, String... want) {
        int first = x.decisions() - want.length;
        CHECK.due(what + ", rows", first >= 0, true);
        for (int i = 0; i < want.length && first >= 0; i++) {
            String got = (char) x.decision(first + i, 'k') + " " + x.decision(first + i, 't') + " "
                    + x.decision(first + i, 'p') + " " + x.decision(first + i, 's');
            CHECK.dueText(what + ", row " + i, got, want[i]);
        }
    }

    private static void rowsOfPlay() {
        rows("36 kick-off", Match.stopped(1), "k 1 50 0");
        for (char kind : new char[] {'p', 'f', 's'}) {
            Scrumward x = Match.open(1, 30);
            x.pass(7);
            x.offend(0, kind, true);
            x.carry(28);
            x.pass(1);
            x.blow();
            rows("36 " + kind, x, "k 0 50 0", kind + " 1 30 8");
        }
        Scrumward y = Match.open(0, 50);
        y.pass(9);
        y.kickOut(70, true);
        rows("36 lineout", y, "k 1 50 0", "l 1 70 9");
        Scrumward z = Match.open(1, 100);
        z.ground();
        rows("36 drop-out", z, "k 0 50 0", "d 1 78 0");
    }

    private static void rowsOfKicks() {
        Scrumward x = Match.open(1, 0);
        x.pass(600);
        x.ground();
        x.pass(90);
        x.kick(true);
        rows("36 a conversion", x, "t 1 0 600", "c 1 0 600", "C 1 0 600", "k 0 50 600");
        Scrumward y = Match.given(0, 'p', 30);
        y.choose('g', 0);
        y.kick(true);
        rows("36 a goal", y, "p 0 30 0", "g 0 30 0", "G 0 30 0", "k 1 50 0");
        Scrumward z = Match.given(0, 'p', 30);
        z.choose('g', 0);
        z.pass(61);
        rows("36 a missed one", z, "p 0 30 0", "g 0 30 0", "m 0 30 0", "d 1 78 0");
        Scrumward v = Match.conversion(0);
        v.kick(false);
        rows("36 a missed conversion", v, "t 0 100 0", "c 0 100 0", "m 0 100 0", "k 1 50 0");
    }

    private static void rowsOfReviews() {
        Scrumward x = Match.open(0, 95);
        x.offend(0, 'f', false);
        x.carry(100);
        x.pass(5);
        x.ground();
        x.review();
        rows("36 a try that does not stand", x, "t 0 100 5", "c 0 100 5", "n 0 100 5", "f 1 95 5");
        Scrumward y = Match.open(1, 0);
        Match.passAll(y, 2400);
        y.offend(1, 's', false);
        y.ground();
        y.review();
        rows("36 the same at the end", y, "t 1 0 2400", "c 1 0 2400", "n 1 0 2400", "s 0 0 2400", "e -1 -1 2400");
    }

    private static void rowsOfCards() {
        Scrumward x = Match.stopped(0);
        Match.playAndStop(x, 77);
        x.card(1, 15, 'y');
        x.card(0, 1, 'r');
        x.card(1, 2, 'b');
        rows("36 cards", x, "y 1 -1 77", "r 0 -1 77", "b 1 -1 77");
        Match.playAndStop(x, 600);
        x.comeBack(1, 15);
        x.card(1, 15, 'y');
        rows("36 r for a second yellow one", x, "r 1 -1 677");
    }

    private static void rowsOfEnds() {
        Scrumward x = Match.open(0, 50);
        Match.passAll(x, 2405);
        x.kickOut(60, true);
        rows("36 the first end", x, "l 1 60 2405", "e -1 -1 2405");
        x.begin(1);
        rows("36 the second beginning", x, "e -1 -1 2405", "k 1 50 2405");
        Match.playAndStop(x, 2400);
        rows("36 the second end", x, "l " + x.decision(x.decisions() - 2, 't') + " 50 4805", "e -1 -1 4805");
    }

    private static void whatIsNoDecision() {
        Scrumward x = Match.stopped(0);
        x.replace(0, 9, 21, 'b');
        x.comeBack(0, 9);
        x.replace(0, 9, 21, 't');
        x.pass(600);
        CHECK.due("35 replacements are none", x.decisions(), 1);
        x.restart(8);
        x.carry(50);
        x.throwTo(9);
        x.lose(8, true);
        x.tackle(7);
        x.join(0, 1);
        x.win(0, 10);
        x.offend(0, 'p', true);
        x.offend(0, 'p', false);
        CHECK.due("35 play that goes on has none", x.decisions(), 1);
        x.blow();
        CHECK.due("35 the stop has one", x.decisions(), 2);
        x.card(0, 1, 'b');
        x.decide(0, 1, false);
        CHECK.due("35 a decided card was shown already", x.decisions(), 3);
        Scrumward y = Match.scrum(0, 50);
        y.reset();
        y.reset();
        CHECK.due("35 a scrum set anew has none", y.decisions(), 2);
        y.reset();
        CHECK.due("35 the free kick of the third has one", y.decisions(), 3);
        Scrumward z = Match.conversion(0);
        z.review();
        CHECK.due("35 a try that stands has no more", z.decisions(), 3);
    }

    private static void refusedCallsAreNone() {
        Scrumward x = Match.stopped(0);
        CHECK.refuses("29 bench", UnsupportedOperationException.class, x, () -> x.card(0, 16, 'y'));
        CHECK.refuses("26 no kick", IllegalStateException.class, x, () -> x.kick(true));
        CHECK.refuses("7 on", IllegalStateException.class, x, () -> x.begin(0));
        CHECK.due("35 one all the same", x.decisions(), 1);
    }

    /** A match that is over: so many tries, conversions and penalty goals of each team. */
    private static Scrumward over(int[] first, int[] second) {
        Scrumward x = new Scrumward();
        x.begin(0);
        for (int team = 0; team < 2; team++) {
            int[] scores = team == 0 ? first : second;
            for (int i = 0; i < scores[0]; i++) {
                take(x, team);
                x.carry(Match.goal(team));
                x.ground();
                x.kick(i < scores[1]);
            }
            for (int i = 0; i < scores[2]; i++) {
                take(x, team);
                x.offend(1 - team, 'p', true);
                x.blow();
                x.choose('g', 0);
                x.kick(true);
            }
        }
        Match.playAndStop(x, 2400);
        return Match.afterPeriods(x, 1);
    }

    /** From the kick-off to come, the team has the ball, and no advantage is open. */
    private static void take(Scrumward x, int team) {
        boolean isCaught = x.toCome('t') != team;
        x.restart(11);
        if (!isCaught) {
            x.lose(12, false);
            x.pass(30);
        }
    }

    private static void league(String what, Scrumward x, int first, int second) {
        CHECK.due(what + ", over", x.isOver(), true);
        CHECK.due(what + ", the team 0", x.leaguePoints(0), first);
        CHECK.due(what + ", the team 1", x.leaguePoints(1), second);
    }

    private static int[] scores(int tries, int conversions, int goals) {
        return new int[] {tries, conversions, goals};
    }

    /** "4 for a win": by one place of points, or by many. */
    private static void wins() {
        league("38 3 to 0", over(scores(0, 0, 1), scores(0, 0, 0)), 4, 1);
        league("38 0 to 3", over(scores(0, 0, 0), scores(0, 0, 1)), 1, 4);
        league("38 10 to 9", over(scores(2, 0, 0), scores(0, 0, 3)), 4, 1);
        league("38 9 to 10", over(scores(0, 0, 3), scores(2, 0, 0)), 1, 4);
    }

    /** "2 for a draw." */
    private static void draws() {
        league("38 0 to 0", over(scores(0, 0, 0), scores(0, 0, 0)), 2, 2);
        league("38 10 to 10", over(scores(2, 0, 0), scores(1, 1, 1)), 2, 2);
        league("38 20 to 20", over(scores(4, 0, 0), scores(2, 2, 2)), 3, 2);
        league("38 20 to 20 of tries", over(scores(4, 0, 0), scores(4, 0, 0)), 3, 3);
    }

    /** "1 for a loss by at most 7." */
    private static void lossesBySeven() {
        league("38 by 1", over(scores(0, 0, 2), scores(1, 1, 0)), 1, 4);
        league("38 by 6", over(scores(0, 0, 2), scores(0, 0, 0)), 4, 1);
        league("38 by 7", over(scores(1, 1, 0), scores(0, 0, 0)), 4, 1);
        league("38 by 8", over(scores(1, 0, 1), scores(0, 0, 0)), 4, 0);
        league("38 by 7, the other way", over(scores(0, 0, 0), scores(1, 1, 0)), 1, 4);
        league("38 by 8, the other way", over(scores(0, 0, 0), scores(1, 0, 1)), 0, 4);
        league("38 by 30", over(scores(0, 0, 10), scores(0, 0, 0)), 4, 0);
    }

    /** "1 for 4 tries or more." */
    private static void fourTries() {
        league("38 3 tries", over(scores(3, 0, 0), scores(0, 0, 0)), 4, 0);
        league("38 4 tries", over(scores(4, 0, 0), scores(0, 0, 0)), 5, 0);
        league("38 5 tries", over(scores(5, 0, 0), scores(0, 0, 0)), 5, 0);
        league("38 4 tries, and lost by 1", over(scores(4, 0, 0), scores(0, 0, 7)), 2, 4);
        league("38 4 tries, and lost by 8", over(scores(4, 0, 0), scores(4, 4, 0)), 1, 5);
        league("38 3 tries, and lost by 7", over(scores(3, 1, 0), scores(0, 0, 8)), 1, 4);
    }

    /** The fourth try is undone by a review, or it stands. */
    private static void triesThatDoNotStand() {
        for (int undone = 0; undone < 2; undone++) {
            Scrumward x = Match.stopped(1);
            for (int i = 0; i < 4; i++) {
                take(x, 0);
                x.carry(100);
                x.offend(0, 'p', false);
                x.ground();
                if (i == 3 && undone == 1) {
                    x.review();
                } else {
                    x.kick(false);
                }
            }
            Match.playAndStop(x, 2400);
            Match.afterPeriods(x, 1);
            CHECK.due("37 points, undone " + undone, x.points(0), undone == 1 ? 15 : 20);
            CHECK.due("38 tries that stand, undone " + undone, x.leaguePoints(0), undone == 1 ? 4 : 5);
        }
    }

    private static void leagueOnlyWhenOver() {
        Scrumward x = Match.open(0, 50);
        Match.passAll(x, 2400);
        CHECK.refuses("38 on", IllegalStateException.class, x, () -> x.leaguePoints(0));
        x.kickOut(50, true);
        CHECK.refuses("38 behind the first", IllegalStateException.class, x, () -> x.leaguePoints(0));
        Match.openOf(x, 0, 50);
        Match.passAll(x, 2400);
        CHECK.refuses("38 at the end of the second", IllegalStateException.class, x, () -> x.leaguePoints(0));
        x.kickOut(50, true);
        CHECK.due("38 over", x.leaguePoints(0), 2);
    }

    /** "The share of the seconds of play in which a team had the ball in open play." */
    private static void shares() {
        Scrumward x = Match.open(0, 50);
        CHECK.refuses("39 none", ArithmeticException.class, x, () -> x.share(0));
        x.pass(1);
        CHECK.dueDouble("39 one second", x.share(0), 1.0f);
        CHECK.dueDouble("39 one second of the other", x.share(1), 0.0f);
        x.lose(7, false);
        x.pass(3);
        CHECK.dueDouble("39 lost", x.share(0), 0.25f);
        CHECK.dueDouble("39 got", x.share(1), 0.75f);
        x.tackle(9);
        x.pass(4);
        CHECK.dueDouble("39 a ruck", x.share(1), 0.375f);
        x.win(0, 10);
        x.kickOut(50, true);
        x.pass(600);
        CHECK.dueDouble("39 stopped", x.share(1), 0.375f);
        x.restart(1);
        x.pass(8);
        CHECK.dueDouble("39 a lineout", x.share(0), 0.0625f);
        x.offend(0, 's', true);
        x.blow();
        x.restart(1);
        x.pass(16);
        CHECK.dueDouble("39 a scrum", x.share(1), 0.09375f);
        x.win(0, 11);
        x.pass(31);
        CHECK.dueDouble("39 its first second and these", x.share(0), 32.0f / 63.0f);
        x.pass(1);
        CHECK.dueDouble("39 and one more", x.share(0), 33.0f / 64.0f);
        Scrumward y = Match.scrum(0, 50);
        y.pass(1);
        CHECK.dueDouble("39 none in open play", y.share(0), 0.0f);
    }

    /** "Its seconds divided by those of play, both converted to float." */
    private static void sharesAreFloats() {
        for (int with = 1; with <= 600; with += 37) {
            Scrumward x = Match.open(1, 50);
            x.pass(with);
            x.tackle(7);
            x.pass(599);
            CHECK.dueDouble("39 as floats " + with, x.share(1), (float) with / (float) (with + 599));
        }
    }

    /** "The phases divided by the stops of play that went on, both converted to double." */
    private static void means() {
        Scrumward x = Match.ruck(0, 50);
        x.win(0, 9);
        CHECK.refuses("41 no stops", ArithmeticException.class, x, () -> x.meanPhases());
        x.kickOut(50, true);
        CHECK.dueDouble("41 1 by 1", x.meanPhases(), 1.0);
        x.restart(1);
        x.offend(0, 's', true);
        x.blow();
        CHECK.dueDouble("41 1 by 2", x.meanPhases(), 0.5);
        x.restart(1);
        x.offend(0, 'p', true);
        x.blow();
        CHECK.dueDouble("41 1 by 3", x.meanPhases(), 1.0 / 3.0);
        x.choose('g', 0);
        x.kick(false);
        CHECK.dueDouble("41 kicks and choices are no stops", x.meanPhases(), 1.0 / 3.0);
        Scrumward y = Match.open(0, 50);
        y.kickOut(50, true);
        CHECK.dueDouble("41 no phases", y.meanPhases(), 0.0);
        Scrumward z = Match.conversion(0);
        CHECK.dueDouble("41 a try is a stop", z.meanPhases(), 0.0);
    }

    /** "At most 512 calls": so many tries with all that they add to the list, so many offences. */
    private static void longestMatch() {
        Scrumward x = new Scrumward();
        x.begin(1);
        int calls = 2;
        int tries = 0;
        while (calls + 4 < 500) {
            x.restart(8);
            x.carry(100);
            x.ground();
            x.kick(true);
            tries++;
            calls += 4;
        }
        CHECK.due("37 all tries count", x.points(0), 7 * tries);
        CHECK.due("35 all decisions are there", x.decisions(), 1 + 4 * tries);
        int last = 4 * tries;
        CHECK.due("36 the last one", x.decision(last, 'k'), 'k');
        CHECK.refuses("36 none behind it", IndexOutOfBoundsException.class, x, () -> x.decision(last + 1, 'k'));
        Scrumward y = Match.open(0, 50);
        for (int i = 1; i <= 500; i++) {
            CHECK.due("20 all are open", y.offend(1, 'p', true), i);
        }
    }
}
