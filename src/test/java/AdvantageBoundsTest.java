/** Terms: offences and advantages; a test for each sentence that names a boundary. */
public final class AdvantageBoundsTest {
    private static final Check CHECK = new Check("AdvantageBoundsTest");
    private static final char[] KINDS = {'p', 'f', 's'};

    private interface Stop {
        void make(Scrumward x);
    }

    public static void main(String[] args) {
        gainsAtFirst();
        gainsOfLaws();
        gainOfEachAlone();
        gainByThrow();
        gainByLoss();
        gainByWin();
        gainOfNewOnes();
        noGainWithoutTheBall();
        noGainInRucks();
        notLookedAtByOtherCalls();
        secondsAtFirst();
        secondsOfLaws();
        secondsOfEachAlone();
        secondsInEachPlay();
        placeOfTheBallThen();
        placeOfTheThrow();
        placesOfLosses();
        bringBacks();
        CHECK.end();
    }

    /** How many advantages are open: an offence that is not seen opens none. */
    private static int open(Scrumward x) {
        return x.offend(0, 's', false);
    }

    private static int towards(int team) {
        return team == 0 ? 1 : -1;
    }

    /** The team has the ball at 50, and an advantage of the kind. */
    private static Scrumward with(int team, char kind) {
        return withOf(new Scrumward(), team, kind);
    }

    private static Scrumward withOf(Scrumward x, int team, char kind) {
        Match.openOf(x, team, 50);
        x.offend(1 - team, kind, true);
        return x;
    }

    private static int gainOf(char kind) {
        return kind == 's' ? 8 : 15;
    }

    private static int secondsOf(char kind) {
        return kind == 's' ? 15 : 30;
    }

    /** "Ahead of its place by at least the gain": 15 places for p and f, 8 for s at first. */
    private static void gainsAtFirst() {
        for (int team = 0; team < 2; team++) {
            for (char kind : KINDS) {
                int gain = gainOf(kind) * towards(team);
                CHECK.due("14 one less " + kind, with(team, kind).carry(50 + gain - towards(team)), 1);
                CHECK.due("14 the gain " + kind, with(team, kind).carry(50 + gain), 0);
                CHECK.due("14 one more " + kind, with(team, kind).carry(50 + gain + towards(team)), 0);
                CHECK.due("14 as far behind " + kind, with(team, kind).carry(50 - gain), 1);
                CHECK.due("14 farthest behind " + kind, with(team, kind).carry(Match.goal(1 - team)), 1);
                CHECK.due("14 farthest ahead " + kind, with(team, kind).carry(Match.goal(team)), 0);
                CHECK.due("14 not from it " + kind, with(team, kind).carry(50), 1);
            }
        }
    }

    /** "'g' the gain for p and f, 'h' that for s, 1 to 50." */
    private static void gainsOfLaws() {
        for (int gain : new int[] {1, 2, 49, 50}) {
            for (char kind : KINDS) {
                Scrumward x = new Scrumward();
                x.law(kind == 's' ? 'h' : 'g', gain);
                withOf(x, 0, kind);
                CHECK.due("2 one less than " + gain, x.carry(50 + gain - 1), 1);
                CHECK.due("2 the gain " + gain, x.carry(50 + gain), 0);
                Scrumward y = new Scrumward();
                y.law(kind == 's' ? 'g' : 'h', gain);
                withOf(y, 1, kind);
                CHECK.due("2 the other one's law is not meant, one less", y.carry(51 - gainOf(kind)), 1);
                CHECK.due("2 the other one's law is not meant", y.carry(50 - gainOf(kind)), 0);
            }
        }
    }

    private static void gainOfEachAlone() {
        Scrumward x = with(0, 'p');
        x.offend(1, 's', true);
        x.carry(52);
        x.offend(1, 'f', true);
        x.offend(1, 's', true);
        CHECK.due("14 57", x.carry(57), 4);
        CHECK.due("14 58, the first s", x.carry(58), 3);
        CHECK.due("14 59", x.carry(59), 3);
        CHECK.due("14 60, the second s", x.carry(60), 2);
        CHECK.due("14 64", x.carry(64), 2);
        CHECK.due("14 65, the p", x.carry(65), 1);
        CHECK.due("14 66", x.carry(66), 1);
        CHECK.due("14 67, the f", x.carry(67), 0);
        CHECK.due("14 over for good", x.carry(50), 0);
    }

    /** "This is looked at .. when the ball was .. thrown": the throw is itself an offence, for the other team. */
    private static void gainByThrow() {
        for (char kind : KINDS) {
            for (int team = 0; team < 2; team++) {
                int gain = gainOf(kind) * towards(team);
                Scrumward x = with(team, kind);
                x.setPlace(team, 9, 50 + gain - towards(team));
                CHECK.due("15 ahead", x.throwTo(9), true);
                CHECK.due("15 one less " + kind, open(x), 2);
                Scrumward y = with(team, kind);
                y.setPlace(team, 9, 50 + gain);
                CHECK.due("15 ahead", y.throwTo(9), true);
                CHECK.due("15 the gain " + kind, open(y), 1);
            }
        }
    }

    /** "When the ball was .. lost", to the team whose advantage it is. */
    private static void gainByLoss() {
        for (char kind : KINDS) {
            for (int less = 0; less < 2; less++) {
                Scrumward x = Match.open(0, 50);
                x.offend(0, kind, true);
                int place = 50 - gainOf(kind) + less;
                x.carry(place);
                x.setPlace(1, 7, place);
                CHECK.due("16 not with them yet", open(x), 1);
                CHECK.due("16 at the line", x.lose(7, false), false);
                CHECK.due("16 " + less + " less than the gain " + kind, open(x), less);
            }
        }
    }

    /** "When the ball was .. won", by the team whose advantage it is. */
    private static void gainByWin() {
        for (char kind : KINDS) {
            for (int less = 0; less < 2; less++) {
                Scrumward x = Match.open(0, 50);
                x.offend(0, kind, true);
                x.carry(50 - gainOf(kind) + less);
                x.tackle(7);
                CHECK.due("17 a ruck", open(x), 1);
                x.win(1, 9);
                CHECK.due("19 " + less + " less than the gain " + kind, open(x), less);
            }
            Scrumward y = Match.open(0, 50);
            y.offend(0, kind, true);
            y.carry(0);
            y.tackle(7);
            y.win(0, 9);
            CHECK.due("19 the other team wins it", open(y), 1);
        }
    }

    /** "With the new ones too": a ball that is knocked on far enough. */
    private static void gainOfNewOnes() {
        for (int team = 0; team < 2; team++) {
            for (int less = 0; less < 2; less++) {
                Scrumward x = Match.open(1 - team, 50);
                x.setPlace(team, 7, 50 + (8 - less) * towards(team));
                CHECK.due("16 offside", x.lose(7, true), true);
                CHECK.due("16 the knock-on, " + less + " less than its gain", open(x), 1 + less);
                CHECK.due("16 the oldest one", x.blow(), less == 1 ? 's' : 'p');
            }
        }
    }

    /** "With this team having it": the ball of the other team is ahead of the place for nothing. */
    private static void noGainWithoutTheBall() {
        for (char kind : KINDS) {
            Scrumward x = Match.open(1, 50);
            x.offend(1, kind, true);
            CHECK.due("14 the other team goes back", x.carry(100), 1);
            x.pass(1);
            CHECK.due("8 seconds pass", open(x), 1);
            x.setPlace(1, 9, 100);
            x.throwTo(9);
            CHECK.due("15 the other team throws", open(x), 1);
            x.setPlace(0, 7, 100);
            x.lose(7, false);
            CHECK.due("16 the team has it", open(x), 0);
        }
    }

    /** "In open play": in a ruck ahead of the place it is not over, by no seconds but its own. */
    private static void noGainInRucks() {
        for (char kind : KINDS) {
            Scrumward x = Match.open(1, 50);
            x.offend(1, kind, true);
            x.carry(100);
            x.setPlace(0, 7, 100);
            x.tackle(7);
            CHECK.due("17 a ruck at the end", open(x), 1);
            x.pass(secondsOf(kind) - 1);
            CHECK.due("8 a second is left", open(x), 1);
            x.pass(1);
            CHECK.due("8 none is left", open(x), 0);
        }
    }

    /** "Looked at .. when the ball was carried, thrown, lost or won, and when seconds have passed", by no other call. */
    private static void notLookedAtByOtherCalls() {
        Scrumward x = with(0, 'p');
        x.setPlace(0, 9, 100);
        x.setPlace(1, 7, 100);
        CHECK.due("3 a place", open(x), 1);
        x.tackle(7);
        CHECK.due("17 a tackle", open(x), 1);
        x.join(0, 1);
        x.join(1, 1);
        CHECK.due("18 a join", open(x), 1);
        CHECK.due("20 an offence", x.offend(1, 's', true), 2);
    }

    /** "Or when so many seconds of play or more have passed since": 30 for p and f, 15 for s at first. */
    private static void secondsAtFirst() {
        for (char kind : KINDS) {
            for (int team = 0; team < 2; team++) {
                int seconds = secondsOf(kind);
                Scrumward x = with(team, kind);
                x.pass(seconds - 1);
                CHECK.due("8 one less " + kind, open(x), 1);
                x.pass(1);
                CHECK.due("8 so many, in two parts " + kind, open(x), 0);
                Scrumward y = with(team, kind);
                y.pass(seconds);
                CHECK.due("8 so many, at once " + kind, open(y), 0);
                Scrumward z = with(team, kind);
                z.pass(seconds + 1);
                CHECK.due("8 one more " + kind, open(z), 0);
                CHECK.refuses("21 none is open", IllegalStateException.class, z, () -> z.blow());
            }
        }
    }

    /** "'a' the seconds for p and f, 'b' those for s, 1 to 120." */
    private static void secondsOfLaws() {
        for (int seconds : new int[] {1, 2, 119, 120}) {
            for (char kind : KINDS) {
                Scrumward x = new Scrumward();
                x.law(kind == 's' ? 'b' : 'a', seconds);
                withOf(x, 0, kind);
                for (int i = 1; i < seconds; i++) {
                    x.pass(1);
                }
                CHECK.due("2 one less than " + seconds, open(x), 1);
                x.pass(1);
                CHECK.due("2 the seconds " + seconds, open(x), 0);
                Scrumward y = new Scrumward();
                y.law(kind == 's' ? 'a' : 'b', seconds);
                withOf(y, 1, kind);
                y.pass(secondsOf(kind) - 1);
                CHECK.due("2 the other one's law is not meant, one less", open(y), 1);
                y.pass(1);
                CHECK.due("2 the other one's law is not meant", open(y), 0);
            }
        }
    }

    /** Each has the clock of its own beginning, whatever period and second it is. */
    private static void secondsOfEachAlone() {
        Scrumward x = Match.openOf(Match.afterPeriods(new Scrumward(), 1), 0, 50);
        x.pass(333);
        x.offend(1, 'p', true);
        x.pass(10);
        x.offend(1, 's', true);
        x.pass(5);
        x.offend(0, 'f', true);
        x.pass(9);
        CHECK.due("8 24 seconds of p, 14 of s, 9 of f", open(x), 3);
        x.pass(1);
        CHECK.due("8 15 of s", open(x), 2);
        x.pass(4);
        CHECK.due("8 29 of p", open(x), 2);
        x.pass(1);
        CHECK.due("8 30 of p", open(x), 1);
        x.pass(14);
        CHECK.due("8 29 of f", open(x), 1);
        x.pass(1);
        CHECK.due("8 30 of f", open(x), 0);
    }

    private static void secondsInEachPlay() {
        for (String state : new String[] {"open", "ruck", "scrum", "lineout"}) {
            for (char kind : KINDS) {
                Scrumward x = Match.in(state);
                x.pass(100);
                CHECK.due("20 opened, " + state, x.offend(1, kind, true), 1);
                x.pass(secondsOf(kind) - 1);
                CHECK.due("8 one less, " + state, open(x), 1);
                x.pass(1);
                CHECK.due("8 so many, " + state, open(x), 0);
            }
        }
    }

    /** "It opens an advantage for the other team, with the place of the ball and the clock then." */
    private static void placeOfTheBallThen() {
        for (int team = 0; team < 2; team++) {
            for (char kind : KINDS) {
                Scrumward x = with(team, kind);
                x.carry(50 + 5 * towards(team));
                x.offend(1 - team, kind, true);
                x.carry(50 + 7 * towards(team));
                CHECK.due("21 kind", x.blow(), kind);
                CHECK.due("21 for the other team", x.toCome('t'), team);
                CHECK.due("21 at the place then", x.toCome('p'), 50);
            }
        }
        for (String state : new String[] {"open", "ruck", "scrum", "lineout"}) {
            Scrumward x = Match.in(state);
            x.offend(0, 'f', true);
            x.blow();
            CHECK.due("20 place, " + state, x.toCome('p'), state.equals("open") ? 100 : 50);
            CHECK.due("20 team, " + state, x.toCome('t'), 1);
        }
    }

    /** "By a throw, it is the place from which it was thrown": one ahead is an offence, level is none. */
    private static void placeOfTheThrow() {
        for (int team = 0; team < 2; team++) {
            for (int ahead = -1; ahead <= 1; ahead++) {
                Scrumward x = Match.open(team, 50);
                x.setPlace(team, 9, 50 + ahead * towards(team));
                CHECK.due("15 ahead by " + ahead, x.throwTo(9), ahead == 1);
                CHECK.due("15 an advantage", open(x), ahead == 1 ? 1 : 0);
                if (ahead == 1) {
                    CHECK.due("15 a scrum", x.blow(), 's');
                    CHECK.due("15 of the other team", x.toCome('t'), 1 - team);
                    CHECK.due("15 from which it was thrown", x.toCome('p'), 50);
                }
            }
        }
    }

    /** "Knocked on, an offence for a scrum, ahead of that"; "offside, an offence for a penalty, behind that". */
    private static void placesOfLosses() {
        for (int team = 0; team < 2; team++) {
            for (int ahead = -1; ahead <= 1; ahead++) {
                Scrumward x = Match.open(1 - team, 50);
                x.setPlace(team, 7, 50 + ahead * towards(team));
                CHECK.due("16 ahead by " + ahead, x.lose(7, false), ahead == 1);
                CHECK.due("16 an advantage", open(x), ahead == 1 ? 1 : 0);
                if (ahead == 1) {
                    CHECK.due("16 a penalty", x.blow(), 'p');
                    CHECK.due("16 of the other team", x.toCome('t'), 1 - team);
                    CHECK.due("16 where the ball is then", x.toCome('p'), 50 + towards(team));
                }
            }
            Scrumward y = Match.open(1 - team, 50);
            y.setPlace(team, 7, 50 - 6 * towards(team));
            y.lose(7, true);
            CHECK.due("16 a scrum", y.blow(), 's');
            CHECK.due("16 of the team that got it", y.toCome('t'), team);
            CHECK.due("16 where it was lost", y.toCome('p'), 50);
        }
    }

    private static void bringBacks() {
        offsideTackles();
        offsideJoins();
        toTheOldestOne();
        stopsWithoutAdvantages();
        triesBroughtBack();
        triesThatStand();
        allAreOverThen();
        phases();
    }

    /** "Returns true if the player was offside, an offence for a penalty": one ahead of the ball, and at it. */
    private static void offsideTackles() {
        for (int team = 0; team < 2; team++) {
            for (int ahead = -1; ahead <= 1; ahead++) {
                Scrumward x = Match.open(1 - team, 50);
                x.setPlace(team, 7, 50 + ahead * towards(team));
                CHECK.due("17 ahead by " + ahead, x.tackle(7), ahead == 1);
                CHECK.due("17 at the ball then", x.placeOf(team, 7), 50);
                CHECK.due("17 an advantage", open(x), ahead == 1 ? 1 : 0);
                if (ahead == 1) {
                    CHECK.due("17 a penalty", x.blow(), 'p');
                    CHECK.due("17 of the other team", x.toCome('t'), 1 - team);
                    CHECK.due("17 at the ball", x.toCome('p'), 50);
                }
            }
        }
    }

    private static void offsideJoins() {
        for (int team = 0; team < 2; team++) {
            for (int ahead = -1; ahead <= 1; ahead++) {
                Scrumward x = Match.ruck(0, 50);
                int place = 50 + ahead * towards(team);
                x.setPlace(team, 4, place);
                CHECK.due("18 ahead by " + ahead, x.join(team, 4), ahead == 1);
                CHECK.due("18 without another place", x.placeOf(team, 4), place);
                CHECK.due("18 an advantage", open(x), ahead == 1 ? 1 : 0);
                if (ahead == 1) {
                    CHECK.due("18 a penalty", x.blow(), 'p');
                    CHECK.due("18 of the other team", x.toCome('t'), 1 - team);
                    CHECK.due("18 at the ball", x.toCome('p'), 50);
                }
            }
        }
    }

    /** "When play is to be stopped for a reason, and advantages are open, it is brought back .. to the oldest one." */
    private static void toTheOldestOne() {
        for (int team = 0; team < 2; team++) {
            int side = team;
            for (char kind : KINDS) {
                broughtBack("21 blow", kind, side, Match.open(0, 50), x -> x.blow());
                broughtBack("22 kickOut", kind, side, Match.open(0, 50), x -> x.kickOut(60, true));
                broughtBack("23 the own goal", kind, side, Match.open(0, 0), x -> x.ground());
                Scrumward scrum = Match.scrum(0, 50);
                scrum.reset();
                scrum.reset();
                broughtBack("27 the third reset", kind, side, scrum, x -> x.reset());
            }
        }
    }

    /** The team's offence is the oldest one of three, and the stop brings play back to it. */
    private static void broughtBack(String what, char kind, int team, Scrumward x, Stop stop) {
        int rows = x.decisions();
        x.offend(team, kind, true);
        x.offend(1 - team, kind == 'p' ? 'f' : 'p', true);
        x.offend(team, kind == 'p' ? 'f' : 'p', true);
        stop.make(x);
        CHECK.due(what + ", kind", x.toCome('k'), kind);
        CHECK.due(what + ", team", x.toCome('t'), 1 - team);
        CHECK.due(what + ", one decision", x.decisions(), rows + 1);
        CHECK.due(what + ", that one", x.decision(rows, 'k'), kind);
        CHECK.due(what + ", stopped", x.play(), 'x');
    }

    /** Where the last one was over a moment ago, the reason itself counts. */
    private static void stopsWithoutAdvantages() {
        Scrumward x = with(0, 's');
        x.pass(14);
        CHECK.due("22 a second before it is over", x.kickOut(60, true), 's');
        Scrumward y = with(0, 's');
        y.pass(15);
        CHECK.due("22 when it is over", y.kickOut(60, true), 'l');
        Scrumward z = with(0, 'p');
        z.carry(64);
        CHECK.due("22 a place before it is over", z.kickOut(60, true), 'p');
        Scrumward v = with(0, 'p');
        v.carry(65);
        CHECK.due("22 when it is over", v.kickOut(60, true), 'l');
    }

    /** "If the reason is a try, to the oldest one for the other team." */
    private static void triesBroughtBack() {
        for (int team = 0; team < 2; team++) {
            for (char kind : KINDS) {
                Scrumward x = Match.open(team, Match.goal(team));
                x.offend(1 - team, 'p', true);
                x.offend(team, kind, true);
                x.offend(team, 'f', true);
                int rows = x.decisions();
                CHECK.due("23 the oldest for the other team", x.ground(), kind);
                CHECK.due("23 its team", x.toCome('t'), 1 - team);
                CHECK.due("23 its place", x.toCome('p'), Match.goal(team));
                CHECK.due("23 no points", x.points(team), 0);
                CHECK.due("23 one decision", x.decisions(), rows + 1);
            }
        }
    }

    /** "And without such, the try stands." */
    private static void triesThatStand() {
        for (int team = 0; team < 2; team++) {
            Scrumward x = Match.open(team, Match.goal(team));
            x.offend(1 - team, 'p', true);
            x.offend(1 - team, 's', true);
            CHECK.due("23 none for the other team", x.ground(), 'c');
            CHECK.due("23 points", x.points(team), 5);
            Scrumward y = Match.open(team, Match.goal(team));
            y.offend(team, 's', true);
            y.pass(14);
            CHECK.due("23 a second before it is over", y.ground(), 's');
            Scrumward z = Match.open(team, Match.goal(team));
            z.offend(team, 's', true);
            z.pass(15);
            CHECK.due("23 when it is over", z.ground(), 'c');
        }
    }

    /** "All advantages are over when play has been stopped." */
    private static void allAreOverThen() {
        overBehind("21 blow", Match.open(0, 50), x -> x.blow());
        overBehind("22 kickOut", Match.open(0, 50), x -> x.kickOut(60, true));
        overBehind("23 a try", Match.open(1, 0), x -> {
            x.ground();
            x.kick(true);
        });
        overBehind("23 the own goal", Match.open(1, 100), x -> x.ground());
        Scrumward scrum = Match.scrum(0, 50);
        scrum.reset();
        scrum.reset();
        overBehind("27 reset", scrum, x -> x.reset());
    }

    private static void overBehind(String what, Scrumward x, Stop stop) {
        x.offend(0, 'p', true);
        x.offend(0, 's', true);
        stop.make(x);
        if (!x.restart(9)) {
            x.win(0, 9);
        }
        CHECK.due(what + ", none is open then", open(x), 0);
        CHECK.refuses(what + ", nothing to blow for", IllegalStateException.class, x, () -> x.blow());
    }

    /** "A phase is counted each time a team wins the ball from a ruck, scrum or lineout, from 0 on when play was stopped." */
    private static void phases() {
        for (String state : new String[] {"ruck", "scrum", "lineout"}) {
            Scrumward x = Match.in(state);
            for (int count = 1; count <= 5; count++) {
                CHECK.due("19 from a " + state, x.win(count % 2, 9), count);
                x.tackle(10 + count % 2);
            }
        }
        Scrumward y = Match.ruck(0, 50);
        y.win(0, 9);
        y.lose(10, false);
        y.throwTo(9);
        y.tackle(10);
        CHECK.due("19 losses and throws are none", y.win(1, 10), 2);
        for (char kind : KINDS) {
            Scrumward x = Match.ruck(0, 50);
            x.win(0, 9);
            x.offend(1, kind, true);
            x.blow();
            if (x.restart(9)) {
                x.tackle(7);
            }
            CHECK.due("19 from 0 on behind " + kind, x.win(0, 10), 1);
        }
        Scrumward z = Match.ruck(0, 50);
        z.win(0, 9);
        z.kickOut(50, true);
        z.restart(1);
        CHECK.due("19 from 0 on behind a lineout", z.win(0, 10), 1);
    }
}
