/** Matches that have come to a certain point. */
final class Match {
    /** Each state that a match can be in: without a period, with something to come, or with play that goes on. */
    static final String[] STATES = {"new", "between", "over", "k", "d", "s", "l", "p", "f", "g", "c", "open", "ruck",
        "scrum", "lineout"};

    private Match() {
    }

    /** A match in the state; what is to come is for the team 0, which has the ball at its goal in open play. */
    static Scrumward in(String state) {
        switch (state) {
            case "new":
                return new Scrumward();
            case "between":
                return afterPeriods(new Scrumward(), 1);
            case "over":
                return afterPeriods(new Scrumward(), 2);
            case "open":
                return open(0, goal(0));
            case "ruck":
                return ruck(0, 50);
            case "scrum":
                return scrum(0, 50);
            case "lineout":
                return started(coming('l'));
            default:
                return coming(state.charAt(0));
        }
    }

    /** In the first period something of the kind is to come for the team 0. */
    static Scrumward coming(char kind) {
        Scrumward x;
        switch (kind) {
            case 'k':
                return stopped(0);
            case 'd':
                x = open(0, 0);
                x.ground();
                return x;
            case 'l':
                x = open(1, 50);
                x.kickOut(50, true);
                return x;
            case 'g':
                x = given(0, 'p', 50);
                x.choose('g', 0);
                return x;
            case 'c':
                return conversion(0);
            default:
                return given(0, kind, 50);
        }
    }

    private static Scrumward started(Scrumward x) {
        x.restart(1);
        return x;
    }

    /** This match after so many more periods, without a score. */
    static Scrumward afterPeriods(Scrumward x, int count) {
        for (int i = 0; i < count; i++) {
            x.begin(0);
            playAndStop(x, x.period() < 2 ? 2400 : 600);
        }
        return x;
    }

    /** The match that must have a winner, ahead of this period, without a score. */
    static Scrumward aheadOf(int period) {
        Scrumward x = new Scrumward();
        x.law('o', 1);
        return afterPeriods(x, period);
    }

    /** Lets so many seconds of play pass, with stops, over periods if need be; play is stopped then. */
    static void playLong(Scrumward x, int seconds) {
        for (int left = seconds; left > 0; left -= 600) {
            playAndStop(x, Math.min(left, 600));
            if (x.period() < 0) {
                x.begin(0);
            }
        }
    }

    /** The player 8 of the team carries the ball at the place, in the first period. */
    static Scrumward open(int team, int place) {
        return openOf(new Scrumward(), team, place);
    }

    /** As open, but in the next period of this match. */
    static Scrumward openOf(Scrumward x, int team, int place) {
        x.begin(1 - team);
        x.restart(8);
        x.carry(place);
        return x;
    }

    /** Play is stopped in the first period, with the team's kick-off to come. */
    static Scrumward stopped(int team) {
        Scrumward x = new Scrumward();
        x.begin(team);
        return x;
    }

    /** A penalty or free kick of the team is to come at the place. */
    static Scrumward given(int team, char kind, int place) {
        Scrumward x = open(team, place);
        x.offend(1 - team, kind, true);
        x.blow();
        return x;
    }

    /** A scrum of the team goes on at the place. */
    static Scrumward scrum(int team, int place) {
        Scrumward x = given(team, 's', place);
        x.restart(1);
        return x;
    }

    /** The player 8 of the team was tackled by the player 7 of the other one at the place. */
    static Scrumward ruck(int team, int place) {
        Scrumward x = open(team, place);
        x.setPlace(1 - team, 7, place);
        x.tackle(7);
        return x;
    }

    /** The conversion of a try of the team is to come. */
    static Scrumward conversion(int team) {
        Scrumward x = open(team, goal(team));
        x.ground();
        return x;
    }

    static int goal(int team) {
        return team == 0 ? 100 : 0;
    }

    static void passAll(Scrumward x, int seconds) {
        for (int left = seconds; left > 0; left -= 600) {
            x.pass(Math.min(left, 600));
        }
    }

    /** Lets play go on with a player 11, seconds of play pass, and play stop with a lineout at 50. */
    static void playAndStop(Scrumward x, int seconds) {
        if (!x.restart(11)) {
            x.win(0, 11);
        }
        passAll(x, seconds);
        x.kickOut(50, true);
    }

    /** All that a caller can see of a match. */
    static String view(Scrumward x) {
        StringBuilder text = new StringBuilder();
        text.append(x.play()).append(x.clock()).append(' ').append(x.period()).append(x.isOver());
        for (char what : new char[] {'k', 't', 'p'}) {
            try {
                text.append(' ').append(x.toCome(what));
            } catch (java.util.NoSuchElementException e) {
                text.append(" none");
            }
        }
        for (int team = 0; team < 2; team++) {
            viewTeam(x, team, text);
        }
        text.append(x.isContested()).append(x.isConsistent()).append(x.secondsOfPlay());
        try {
            text.append(' ').append(x.meanPhases());
        } catch (ArithmeticException e) {
            text.append(" none");
        }
        for (int i = 0; i < x.decisions(); i++) {
            text.append('\n').append((char) x.decision(i, 'k')).append(' ').append(x.decision(i, 't'));
            text.append(' ').append(x.decision(i, 'p')).append(' ').append(x.decision(i, 's'));
        }
        return text.toString();
    }

    private static void viewTeam(Scrumward x, int team, StringBuilder text) {
        text.append('\n').append(x.points(team)).append(' ').append(x.onField(team)).append(' ').append(x.allowed(team));
        try {
            text.append(' ').append(x.share(team));
        } catch (ArithmeticException e) {
            text.append(" none");
        }
        for (int player = 1; player <= 23; player++) {
            try {
                text.append(' ').append(x.placeOf(team, player)).append(x.isOffside(team, player) ? '!' : '.');
            } catch (java.util.NoSuchElementException e) {
                text.append(" -");
            }
        }
        text.append('\n');
    }
}
