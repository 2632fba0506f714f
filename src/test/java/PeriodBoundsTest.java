import java.util.NoSuchElementException;

/** Terms: periods, clocks and ends; a test for each sentence that names a boundary. */
public final class PeriodBoundsTest {
    private static final Check CHECK = new Check("PeriodBoundsTest");
    private static final int[] LENGTHS = {2400, 2400, 600, 600};

    private interface Stop {
        char make(Scrumward x);
    }

    public static void main(String[] args) {
        lengths();
        endsByWhatIsToCome();
        staysForOtherThingsToCome();
        endsByKicks();
        endsByMissedClocks();
        endsByReviewsAndChoices();
        endsByResets();
        goesOnBeyondItsSeconds();
        nothingIsToComeBehindTheEnd();
        secondPeriodAlways();
        thirdPeriod();
        fourthPeriod();
        noFifthPeriod();
        scoresOfTheFourth();
        scoresOfTheThird();
        noScoresInTheFourth();
        clockStands();
        clockOfEachPeriod();
        CHECK.end();
    }

    /** In the period of the match the team 0 has the ball at 50, and so many seconds are left. */
    private static Scrumward with(int period, int secondsLeft) {
        Scrumward x = Match.openOf(Match.aheadOf(period), 0, 50);
        Match.passAll(x, LENGTHS[period] - secondsLeft);
        return x;
    }

    /** "Two periods of 2400 seconds .. a third one, .. a fourth one, of 600 seconds each." */
    private static void lengths() {
        for (int period = 0; period < 4; period++) {
            Scrumward x = with(period, 1);
            CHECK.due("22 a second is left of " + period, x.kickOut(50, true), 'l');
            CHECK.due("10 on", x.period(), period);
            Scrumward y = with(period, 0);
            CHECK.due("10 play goes on", y.period(), period);
            CHECK.due("22 none is left of " + period, y.kickOut(50, true), 'e');
            CHECK.due("10 ended", y.period(), -1);
            CHECK.due("9 the clock of the last one", y.clock(), LENGTHS[period]);
            Scrumward z = with(period, -1);
            CHECK.due("22 one more has passed of " + period, z.kickOut(50, true), 'e');
            CHECK.due("9 the clock of the last one", z.clock(), LENGTHS[period] + 1);
        }
    }

    /** Stops play with a second left, with none, and beyond: only then the period ends. */
    private static void endsOnly(String what, char kind, boolean ends, Stop stop) {
        Scrumward x = with(0, 1);
        CHECK.due(what + " with a second left", stop.make(x), kind);
        CHECK.due(what + ", on", x.period(), 0);
        for (int beyond = 0; beyond < 2; beyond++) {
            Scrumward y = with(0, -beyond);
            CHECK.due(what + " with none left", stop.make(y), ends ? 'e' : kind);
            CHECK.due(what + ", the period", y.period(), ends ? -1 : 0);
            int last = y.decisions() - 1;
            CHECK.due(what + ", the last decision", y.decision(last, 'k'), ends ? 'e' : kind);
            CHECK.due(what + ", the kind of the stop", y.decision(ends ? last - 1 : last, 'k'), kind);
        }
    }

    private static char brought(Scrumward x, char kind) {
        x.offend(1, kind, true);
        return x.blow();
    }

    private static char groundedAt(Scrumward x, int place) {
        x.carry(place);
        return x.ground();
    }

    /** "The period ends as soon as play is stopped with nothing still to come but a scrum, a lineout, a drop-out .." */
    private static void endsByWhatIsToCome() {
        endsOnly("21 a scrum", 's', true, x -> brought(x, 's'));
        endsOnly("22 a lineout", 'l', true, x -> x.kickOut(50, false));
        endsOnly("22 a lineout, bounced", 'l', true, x -> x.kickOut(50, true));
        endsOnly("23 a drop-out", 'd', true, x -> groundedAt(x, 0));
    }

    private static void staysForOtherThingsToCome() {
        endsOnly("21 a penalty", 'p', false, x -> brought(x, 'p'));
        endsOnly("21 a free kick", 'f', false, x -> brought(x, 'f'));
        endsOnly("23 a conversion", 'c', false, x -> groundedAt(x, 100));
        endsOnly("25 a kick at goal", 'g', false, x -> {
            brought(x, 'p');
            return x.choose('g', 0);
        });
    }

    /** A kick ends it by the kick-off or the drop-out behind it. */
    private static void endsByKicks() {
        for (int i = 0; i < 2; i++) {
            boolean isGood = i == 0;
            endsOnly("26 a conversion, " + isGood, 'k', true, x -> {
                groundedAt(x, 100);
                return kindBehind(x, () -> x.kick(isGood));
            });
            endsOnly("26 a kick at goal, " + isGood, isGood ? 'k' : 'd', true, x -> {
                brought(x, 'p');
                x.choose('g', 0);
                return kindBehind(x, () -> x.kick(isGood));
            });
        }
    }

    private static void endsByMissedClocks() {
        endsOnly("8 a conversion that is missed by its clock", 'k', true, x -> {
            groundedAt(x, 100);
            x.pass(90);
            CHECK.due("10 90 seconds", x.period(), 0);
            return kindBehind(x, () -> x.pass(1));
        });
        endsOnly("8 a kick at goal that is missed by its clock", 'd', true, x -> {
            brought(x, 'p');
            x.choose('g', 0);
            x.pass(60);
            CHECK.due("10 60 seconds", x.period(), 0);
            return kindBehind(x, () -> x.pass(1));
        });
    }

    /** What is to come behind the call, or e without a period. */
    private static char kindBehind(Scrumward x, Check.Call call) {
        call.run();
        return x.period() < 0 ? 'e' : (char) x.toCome('k');
    }

    private static void endsByReviewsAndChoices() {
        for (char kind : new char[] {'s', 'f', 'p'}) {
            endsOnly("28 a review, " + kind, kind, kind == 's', x -> {
                x.offend(0, kind, false);
                groundedAt(x, 100);
                return x.review();
            });
        }
        endsOnly("28 a review of a try that stands", 'c', false, x -> {
            groundedAt(x, 100);
            return x.review();
        });
        for (char kind : new char[] {'p', 'f'}) {
            endsOnly("25 a scrum that was chosen", 's', true, x -> {
                brought(x, kind);
                return x.choose('s', 0);
            });
            endsOnly("25 a lineout that was chosen", 'l', true, x -> {
                brought(x, kind);
                return x.choose('t', 40);
            });
        }
    }

    private static void endsByResets() {
        Scrumward x = Match.scrum(0, 50);
        Match.passAll(x, 2400);
        CHECK.due("27 set anew, goes on", x.reset(), 's');
        CHECK.due("10 play is not stopped by that", x.period(), 0);
        x.reset();
        CHECK.due("27 the third time", x.reset(), 'f');
        CHECK.due("10 a free kick", x.period(), 0);
        x.choose('s', 0);
        CHECK.due("10 a scrum from it", x.period(), -1);
        Scrumward y = Match.scrum(0, 50);
        Match.passAll(y, 2400);
        y.reset();
        y.reset();
        y.offend(0, 's', true);
        CHECK.due("27 brought back to a scrum", y.reset(), 'e');
    }

    /** "When its seconds are over, the period ends as soon as play is stopped", not before. */
    private static void goesOnBeyondItsSeconds() {
        Scrumward x = with(0, 0);
        x.tackle(7);
        CHECK.due("8 a ruck beyond its seconds", x.pass(600), 3000);
        x.win(0, 9);
        x.offend(1, 'f', true);
        CHECK.due("21 a free kick beyond them", x.blow(), 'f');
        x.restart(8);
        CHECK.due("8 play from it goes on", x.pass(600), 3600);
        CHECK.due("10 on", x.period(), 0);
        CHECK.due("22 until it is stopped", x.kickOut(50, true), 'e');
        CHECK.due("9 its clock", x.clock(), 3600);
    }

    private static void nothingIsToComeBehindTheEnd() {
        Scrumward x = with(0, 0);
        x.kickOut(50, true);
        for (char what : new char[] {'k', 't', 'p'}) {
            CHECK.refuses("13 nothing", NoSuchElementException.class, x, () -> x.toCome(what));
        }
        CHECK.refuses("24 nothing", IllegalStateException.class, x, () -> x.restart(8));
        CHECK.due("12 play", x.play(), 'x');
        CHECK.due("11 another one follows", x.isOver(), false);
    }

    /** "A match has two periods", whoever leads behind the first one. */
    private static void secondPeriodAlways() {
        for (int must = 0; must < 2; must++) {
            for (int goals = 0; goals < 2; goals++) {
                Scrumward x = new Scrumward();
                x.law('o', must);
                endWithGoals(x, goals);
                CHECK.due("11 behind the first", x.isOver(), false);
                CHECK.due("7 the second", x.begin(1), 1);
            }
        }
    }

    /** The next period of the match, with so many penalty goals of the team 0. */
    private static void endWithGoals(Scrumward x, int goals) {
        x.begin(0);
        for (int i = 0; i < goals; i++) {
            x.restart(11);
            x.offend(1, 'p', true);
            x.blow();
            x.choose('g', 0);
            x.kick(true);
        }
        Match.playAndStop(x, x.period() < 2 ? 2400 : 600);
    }

    /** "If it must have a winner and is level then, a third one": each of the four cases. */
    private static void thirdPeriod() {
        for (int must = 0; must < 2; must++) {
            for (int goals = 0; goals < 2; goals++) {
                Scrumward x = new Scrumward();
                x.law('o', must);
                endWithGoals(x, 0);
                endWithGoals(x, goals);
                boolean follows = must == 1 && goals == 0;
                CHECK.due("11 behind the second, " + must + " " + goals, x.isOver(), !follows);
                if (follows) {
                    CHECK.refuses("38 one follows", IllegalStateException.class, x, () -> x.leaguePoints(0));
                    CHECK.due("7 the third", x.begin(0), 2);
                } else {
                    CHECK.refuses("7 none follows", IllegalStateException.class, x, () -> x.begin(0));
                    CHECK.due("38 over", x.leaguePoints(0), goals == 0 ? 2 : 4);
                }
            }
        }
    }

    /** "And if it is level then, a fourth one." */
    private static void fourthPeriod() {
        for (int goals = 0; goals < 2; goals++) {
            Scrumward x = Match.aheadOf(2);
            endWithGoals(x, goals);
            CHECK.due("11 behind the third", x.isOver(), goals == 1);
            if (goals == 0) {
                CHECK.due("7 the fourth", x.begin(0), 3);
            } else {
                CHECK.refuses("7 none follows", IllegalStateException.class, x, () -> x.begin(0));
            }
        }
    }

    /** "The match is over when no period follows": level behind the fourth one, it is a draw. */
    private static void noFifthPeriod() {
        Scrumward x = Match.aheadOf(4);
        CHECK.due("11 over", x.isOver(), true);
        CHECK.due("9 the last clock", x.clock(), 600);
        CHECK.refuses("7 none follows", IllegalStateException.class, x, () -> x.begin(0));
        CHECK.due("38 a draw", x.leaguePoints(0), 2);
        CHECK.due("38 a draw, the team 1", x.leaguePoints(1), 2);
    }

    /** "A score in the fourth one ends it at once": at its first second, its last, and beyond. */
    private static void scoresOfTheFourth() {
        for (int seconds : new int[] {0, 1, 599, 600, 601}) {
            Scrumward x = with(3, 600 - seconds);
            x.carry(100);
            CHECK.due("23 a try at " + seconds, x.ground(), 'e');
            CHECK.due("11 over", x.isOver(), true);
            CHECK.due("9 its clock", x.clock(), seconds);
            CHECK.due("36 the try stands in the list", x.decision(x.decisions() - 2, 'k'), 't');
            CHECK.due("36 then the end", x.decision(x.decisions() - 1, 'k'), 'e');
            CHECK.due("37 points", x.points(0), 5);
            Scrumward y = with(3, 600 - seconds);
            brought(y, 'p');
            y.choose('g', 0);
            CHECK.due("26 a penalty goal at " + seconds, y.kick(true), 3);
            CHECK.due("11 over", y.isOver(), true);
            CHECK.due("36 the goal stands in the list", y.decision(y.decisions() - 2, 'k'), 'G');
            CHECK.due("36 then the end", y.decision(y.decisions() - 1, 'k'), 'e');
        }
    }

    /** In the third one a score ends nothing before the seconds are over. */
    private static void scoresOfTheThird() {
        Scrumward x = with(2, 1);
        x.carry(100);
        CHECK.due("23 a try", x.ground(), 'c');
        CHECK.due("26 its conversion", x.kick(true), 7);
        CHECK.due("10 on", x.period(), 2);
        Scrumward y = with(2, 1);
        brought(y, 'p');
        y.choose('g', 0);
        y.kick(true);
        CHECK.due("10 a penalty goal, on", y.period(), 2);
        Scrumward z = with(2, 0);
        z.carry(100);
        CHECK.due("23 a try behind its seconds", z.ground(), 'c');
        z.kick(true);
        CHECK.due("11 over", z.isOver(), true);
        CHECK.due("37 with the conversion", z.points(0), 7);
    }

    /** What is no score does not end the fourth one. */
    private static void noScoresInTheFourth() {
        Scrumward x = with(3, 1);
        brought(x, 'p');
        x.choose('g', 0);
        CHECK.due("26 missed", x.kick(false), 0);
        CHECK.due("10 on", x.period(), 3);
        Scrumward y = with(3, 1);
        CHECK.due("23 a drop-out", groundedAt(y, 0), 'd');
        CHECK.due("10 on", y.period(), 3);
        Scrumward z = with(3, 1);
        z.offend(0, 'f', true);
        CHECK.due("23 brought back, no try", groundedAt(z, 100), 'f');
        CHECK.due("10 on", z.period(), 3);
    }

    /** "The clock of a period counts seconds while play goes on; it stands while play is stopped." */
    private static void clockStands() {
        for (String state : new String[] {"k", "d", "s", "l", "p", "f", "g", "c"}) {
            Scrumward x = Match.in(state);
            CHECK.due("8 stopped, 1 second, " + state, x.pass(1), 0);
            CHECK.due("8 stopped, 600 seconds, " + state, x.pass(600), 0);
            CHECK.due("9 stopped, " + state, x.clock(), 0);
            CHECK.due("40 stopped, " + state, x.secondsOfPlay(), 0);
        }
        for (String state : new String[] {"open", "ruck", "scrum", "lineout"}) {
            Scrumward x = Match.in(state);
            CHECK.due("8 goes on, 1 second, " + state, x.pass(1), 1);
            CHECK.due("8 goes on, 600 seconds, " + state, x.pass(600), 601);
            CHECK.due("9 goes on, " + state, x.clock(), 601);
            CHECK.due("40 goes on, " + state, x.secondsOfPlay(), 601);
        }
    }

    private static void clockOfEachPeriod() {
        CHECK.due("9 new", new Scrumward().clock(), 0);
        Scrumward x = with(0, 0);
        x.kickOut(50, true);
        CHECK.due("9 of the one that was last", x.clock(), 2400);
        x.begin(0);
        CHECK.due("9 of the one that is on", x.clock(), 0);
        CHECK.due("40 over both", x.secondsOfPlay(), 2400);
        x.restart(11);
        x.pass(1);
        CHECK.due("9 then", x.clock(), 1);
        CHECK.due("40 then", x.secondsOfPlay(), 2401);
        CHECK.due("22 the seconds of the first are not those of the second", x.kickOut(50, true), 'l');
    }
}
