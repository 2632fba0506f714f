/** Kicks out, scores, kicks and their clocks, scrums set anew, reviews; a test for each sentence with a boundary. */
public final class KickBoundsTest {
    private static final Check CHECK = new Check("KickBoundsTest");
    private static final char[] KINDS = {'p', 'f', 's'};

    public static void main(String[] args) {
        notBounced();
        bouncedFromTheOwnHalf();
        bouncedOutNearTheGoal();
        everyKickOut();
        grounds();
        worths();
        whatComesBehindKicks();
        kickAtGoalClock();
        conversionClock();
        clockOfEachKick();
        clockOnlyOfKicks();
        catches();
        taps();
        choices();
        resets();
        resetsAnew();
        reviewOnce();
        reviewOfPhases();
        reviewOfTheFirst();
        reviewSinceTheStop();
        reviewOfTheTeam();
        CHECK.end();
    }

    /** The place as the team counts it, from its own goal. */
    private static int from(int team, int distance) {
        return team == 0 ? distance : 100 - distance;
    }

    private static void lineout(int team, int kicked, int out, boolean bounced, boolean isOwn, int place) {
        Scrumward x = Match.open(team, from(team, kicked));
        String what = "22 team " + team + " from " + kicked + " to " + out + (bounced ? " bounced" : "");
        CHECK.due(what, x.kickOut(from(team, out), bounced), 'l');
        CHECK.due(what + ", kind", x.toCome('k'), 'l');
        CHECK.due(what + ", team", x.toCome('t'), isOwn ? team : 1 - team);
        CHECK.due(what + ", place", x.toCome('p'), from(team, place));
    }

    /** "If .. the player was at most 22 places from the own goal, .. where it went out, otherwise where the player was." */
    private static void notBounced() {
        for (int team = 0; team < 2; team++) {
            for (int kicked : new int[] {0, 1, 21, 22}) {
                lineout(team, kicked, 60, false, false, 60);
                lineout(team, kicked, 99, false, false, 99);
            }
            for (int kicked : new int[] {23, 24, 49, 50, 78, 99, 100}) {
                lineout(team, kicked, 60, false, false, kicked);
                lineout(team, kicked, 99, false, false, kicked);
            }
        }
    }

    /** "For the own one, if it bounced, was kicked from the own half, less than 50 places from the own goal, .." */
    private static void bouncedFromTheOwnHalf() {
        for (int team = 0; team < 2; team++) {
            for (int kicked : new int[] {0, 22, 23, 48, 49}) {
                lineout(team, kicked, 80, true, true, 80);
            }
            for (int kicked : new int[] {50, 51, 78, 100}) {
                lineout(team, kicked, 80, true, false, 80);
            }
        }
    }

    /** ".. and went out at most 22 places from the goal." */
    private static void bouncedOutNearTheGoal() {
        for (int team = 0; team < 2; team++) {
            for (int out : new int[] {78, 79, 99}) {
                lineout(team, 49, out, true, true, out);
                lineout(team, 50, out, true, false, out);
            }
            for (int out : new int[] {1, 22, 50, 76, 77}) {
                lineout(team, 49, out, true, false, out);
                lineout(team, 10, out, true, false, out);
            }
        }
    }

    private static void everyKickOut() {
        for (int kicked = 0; kicked <= 100; kicked += 7) {
            for (int out = 1; out <= 99; out += 7) {
                for (int team = 0; team < 2; team++) {
                    lineout(team, kicked, out, false, false, kicked <= 22 ? out : kicked);
                    lineout(team, kicked, out, true, kicked < 50 && out >= 78, out);
                }
            }
        }
    }

    /** "At the goal a try; at the own goal, a drop-out of the own team"; "if the ball is at no goal". */
    private static void grounds() {
        for (int team = 0; team < 2; team++) {
            for (int place : new int[] {1, 2, 50, 98, 99}) {
                Scrumward x = Match.open(team, place);
                CHECK.refuses("23 at " + place, UnsupportedOperationException.class, x, () -> x.ground());
            }
            Scrumward x = Match.open(team, from(team, 100));
            CHECK.due("23 the goal", x.ground(), 'c');
            CHECK.due("23 the conversion where it was made", x.toCome('p'), from(team, 100));
            CHECK.due("23 of the team", x.toCome('t'), team);
            Scrumward y = Match.open(team, from(team, 0));
            CHECK.due("23 the own goal", y.ground(), 'd');
            CHECK.due("23 22 from the own goal", y.toCome('p'), from(team, 22));
            CHECK.due("23 of the own team", y.toCome('t'), team);
            CHECK.due("23 no points", y.points(0) + y.points(1), 0);
        }
    }

    private static Scrumward kickAtGoal(int team) {
        Scrumward x = Match.given(team, 'p', 30);
        x.choose('g', 0);
        return x;
    }

    /** "A try is 5, a conversion 2, a penalty goal 3." */
    private static void worths() {
        for (int team = 0; team < 2; team++) {
            Scrumward x = Match.conversion(team);
            CHECK.due("37 a try", x.points(team), 5);
            CHECK.due("26 a conversion", x.kick(true), 7);
            CHECK.due("37 with its conversion", x.points(team), 7);
            CHECK.due("37 the other team", x.points(1 - team), 0);
            CHECK.due("26 a missed conversion", Match.conversion(team).kick(false), 5);
            CHECK.due("26 a penalty goal", kickAtGoal(team).kick(true), 3);
            CHECK.due("26 a missed one", kickAtGoal(team).kick(false), 0);
        }
    }

    private static void behind(String what, Scrumward x, char kind, int team, int place) {
        CHECK.due(what + ", kind", x.toCome('k'), kind);
        CHECK.due(what + ", team", x.toCome('t'), team);
        CHECK.due(what + ", place", x.toCome('p'), place);
    }

    /** "Behind it, or a penalty goal, a kick-off of the team that did not score"; "a missed kick at goal, a drop-out". */
    private static void whatComesBehindKicks() {
        for (int team = 0; team < 2; team++) {
            for (int i = 0; i < 2; i++) {
                Scrumward x = Match.conversion(team);
                x.kick(i == 0);
                behind("26 conversion " + i, x, 'k', 1 - team, 50);
            }
            Scrumward y = kickAtGoal(team);
            y.kick(true);
            behind("26 penalty goal", y, 'k', 1 - team, 50);
            Scrumward z = kickAtGoal(team);
            z.kick(false);
            behind("26 missed", z, 'd', 1 - team, from(1 - team, 22));
        }
    }

    /** The kick is open after so many seconds in these parts, and missed with one more. */
    private static void clock(String what, char kind, int[] parts, char then) {
        Scrumward x = Match.coming(kind);
        for (int part : parts) {
            x.pass(part);
            CHECK.due(what + ", still to come", x.toCome('k'), kind);
        }
        int rows = x.decisions();
        CHECK.due(what + ", the clock of the period stands", x.pass(1), 0);
        CHECK.due(what + ", missed", x.toCome('k'), then);
        CHECK.due(what + ", told as missed", x.decision(rows, 'k'), 'm');
        CHECK.due(what + ", whose", x.decision(rows, 't'), 0);
        CHECK.due(what + ", then what comes", x.decision(rows + 1, 'k'), then);
        CHECK.due(what + ", no more", x.decisions(), rows + 2);
        CHECK.refuses(what + ", no kick any more", IllegalStateException.class, x, () -> x.kick(true));
    }

    private static void missedAtOnce(char kind, int seconds, boolean isMissed) {
        Scrumward x = Match.coming(kind);
        x.pass(seconds);
        CHECK.due("8 " + seconds + " seconds at once, " + kind, x.toCome('k') != kind, isMissed);
    }

    /** "A kick at goal has 60 seconds, .. as soon as more have passed, it is missed." */
    private static void kickAtGoalClock() {
        clock("8 60 at once", 'g', new int[] {60}, 'd');
        clock("8 59 and 1", 'g', new int[] {59, 1}, 'd');
        clock("8 three times 20", 'g', new int[] {20, 20, 20}, 'd');
        missedAtOnce('g', 59, false);
        missedAtOnce('g', 60, false);
        missedAtOnce('g', 61, true);
        missedAtOnce('g', 600, true);
        Scrumward x = kickAtGoal(1);
        x.pass(60);
        CHECK.due("26 in its last second", x.kick(true), 3);
    }

    /** "A conversion 90, counted while play is stopped." */
    private static void conversionClock() {
        clock("8 90 at once", 'c', new int[] {90}, 'k');
        clock("8 89 and 1", 'c', new int[] {89, 1}, 'k');
        clock("8 60, 1 and 29", 'c', new int[] {60, 1, 29}, 'k');
        missedAtOnce('c', 61, false);
        missedAtOnce('c', 90, false);
        missedAtOnce('c', 91, true);
        missedAtOnce('c', 600, true);
        Scrumward x = Match.conversion(1);
        x.pass(90);
        CHECK.due("26 in its last second", x.kick(true), 7);
    }

    private static void clockOfEachKick() {
        Scrumward x = Match.conversion(0);
        for (int i = 0; i < 3; i++) {
            x.pass(90);
            x.review();
            CHECK.due("8 a review takes no seconds", x.toCome('k'), 'c');
            x.kick(false);
            x.restart(8);
            x.carry(100);
            x.ground();
            x.pass(90);
            CHECK.due("8 each conversion has its own 90", x.toCome('k'), 'c');
            x.kick(true);
            x.restart(8);
            x.carry(100);
            x.ground();
        }
        x.pass(45);
        x.review();
        x.pass(46);
        CHECK.due("8 a review does not begin it anew", x.toCome('k'), 'k');
        Scrumward y = Match.given(0, 'p', 30);
        y.pass(600);
        y.choose('g', 0);
        y.pass(60);
        CHECK.due("8 from when it was chosen", y.toCome('k'), 'g');
    }

    private static void clockOnlyOfKicks() {
        for (char kind : new char[] {'k', 'd', 's', 'l', 'p', 'f'}) {
            Scrumward x = Match.coming(kind);
            int rows = x.decisions();
            x.pass(600);
            x.pass(600);
            CHECK.due("8 it waits, " + kind, x.toCome('k'), kind);
            CHECK.due("8 nothing is told, " + kind, x.decisions(), rows);
        }
    }

    /** "Caught by a player of the other team, who carries the ball then, where that player is." */
    private static void catches() {
        for (char kind : new char[] {'k', 'd'}) {
            Scrumward x = Match.coming(kind);
            x.setPlace(1, 5, 77);
            x.card(0, 5, 'y');
            CHECK.due("24 caught", x.restart(5), true);
            CHECK.due("24 where that one is", x.placeOf(1, 5), 77);
            x.carry(76);
            CHECK.due("24 who carries it", x.placeOf(1, 5), 76);
            Scrumward y = Match.coming(kind);
            y.card(1, 5, 'y');
            CHECK.refuses("24 off", UnsupportedOperationException.class, y, () -> y.restart(5));
            CHECK.refuses("24 bench", UnsupportedOperationException.class, y, () -> y.restart(16));
        }
        for (char kind : new char[] {'s', 'l'}) {
            Scrumward x = Match.coming(kind);
            x.card(0, 5, 'y');
            x.card(1, 5, 'y');
            CHECK.due("24 whichever number, " + kind, x.restart(5), false);
            CHECK.due("24 begins", x.play(), kind);
        }
    }

    /** "Or lets a player of the team go on at once from a penalty or free kick, whose place is that of it then." */
    private static void taps() {
        for (char kind : new char[] {'p', 'f'}) {
            for (int team = 0; team < 2; team++) {
                Scrumward x = Match.given(team, kind, 33);
                x.card(1 - team, 5, 'y');
                CHECK.due("24 at once", x.restart(5), true);
                CHECK.due("24 at its place", x.placeOf(team, 5), 33);
                CHECK.due("24 the other line is there", x.isOffside(1 - team, 6), team == 1);
                Scrumward y = Match.given(team, kind, 33);
                y.card(team, 5, 'b');
                CHECK.refuses("24 off", UnsupportedOperationException.class, y, () -> y.restart(5));
                CHECK.refuses("24 bench", UnsupportedOperationException.class, y, () -> y.restart(23));
            }
        }
    }

    /** "A kick out: a lineout at the told place, for the own team by a penalty, for the other one by a free kick." */
    private static void choices() {
        for (int team = 0; team < 2; team++) {
            for (int place : new int[] {1, 50, 99}) {
                Scrumward x = Match.given(team, 'p', 33);
                CHECK.due("25 a penalty", x.choose('t', place), 'l');
                behind("25 a penalty", x, 'l', team, place);
                Scrumward y = Match.given(team, 'f', 33);
                CHECK.due("25 a free kick", y.choose('t', place), 'l');
                behind("25 a free kick", y, 'l', 1 - team, place);
                y.restart(1);
                y.win(team, 9);
                CHECK.due("25 the lineout is at the told place", y.placeOf(team, 9), place);
            }
            for (char kind : new char[] {'p', 'f'}) {
                Scrumward x = Match.given(team, kind, 33);
                CHECK.due("25 a scrum", x.choose('s', 99), 's');
                behind("25 a scrum", x, 's', team, 33);
            }
            Scrumward z = Match.given(team, 'p', 33);
            CHECK.due("25 a kick at goal", z.choose('g', 99), 'g');
            behind("25 a kick at goal", z, 'g', team, 33);
            Scrumward v = Match.given(team, 'f', 33);
            CHECK.refuses("25 for a free kick", UnsupportedOperationException.class, v, () -> v.choose('g', 50));
        }
    }

    /** "The third time since play was stopped, it is a free kick for the team whose scrum it is." */
    private static void resets() {
        for (int team = 0; team < 2; team++) {
            for (int holder = 0; holder < 2; holder++) {
                Scrumward x = Match.open(holder, 33);
                x.offend(1 - team, 's', true);
                x.blow();
                x.restart(1);
                for (int time = 1; time <= 2; time++) {
                    CHECK.due("27 time " + time, x.reset(), 's');
                    CHECK.due("27 it goes on", x.play(), 's');
                    CHECK.due("27 seconds count", x.pass(1), time);
                }
                CHECK.due("27 the third", x.reset(), 'f');
                behind("27 the third", x, 'f', team, 33);
                CHECK.refuses("27 no fourth", IllegalStateException.class, x, () -> x.reset());
            }
        }
    }

    private static void resetsAnew() {
        Scrumward x = Match.scrum(0, 33);
        x.reset();
        x.reset();
        x.win(1, 9);
        x.kickOut(44, true);
        x.restart(1);
        CHECK.refuses("27 a lineout", IllegalStateException.class, x, () -> x.reset());
        x.offend(0, 's', true);
        x.blow();
        x.restart(1);
        CHECK.due("27 the first since it was stopped", x.reset(), 's');
        CHECK.due("27 the second", x.reset(), 's');
        CHECK.due("27 the third", x.reset(), 'f');
        Scrumward y = Match.scrum(0, 33);
        y.reset();
        y.offend(1, 's', true);
        y.blow();
        y.restart(1);
        y.reset();
        CHECK.due("27 one ahead of the stop does not count", y.reset(), 's');
    }

    private static Scrumward tryWithUnseen(int team, char kind) {
        Scrumward x = Match.open(team, Match.goal(team));
        x.offend(team, kind, false);
        x.ground();
        return x;
    }

    /** "Looks at the try ahead of its conversion, once." */
    private static void reviewOnce() {
        for (int team = 0; team < 2; team++) {
            Scrumward x = Match.conversion(team);
            int rows = x.decisions();
            CHECK.due("28 the try stands", x.review(), 'c');
            CHECK.due("28 nothing is told", x.decisions(), rows);
            CHECK.refuses("28 it was looked at", IllegalStateException.class, x, () -> x.review());
            x.kick(false);
            CHECK.refuses("28 behind the conversion", IllegalStateException.class, x, () -> x.review());
            for (char kind : KINDS) {
                Scrumward y = tryWithUnseen(team, kind);
                CHECK.due("28 what it gives", y.review(), kind);
                behind("28 what it gives", y, kind, 1 - team, Match.goal(team));
                CHECK.due("28 no try", y.points(team), 0);
                CHECK.refuses("28 no conversion", IllegalStateException.class, y, () -> y.review());
                CHECK.refuses("28 no kick", IllegalStateException.class, y, () -> y.kick(true));
            }
            Scrumward z = tryWithUnseen(team, 'p');
            z.kick(true);
            CHECK.refuses("28 kicked already", IllegalStateException.class, z, () -> z.review());
            CHECK.due("28 the try stands", z.points(team), 7);
        }
    }

    /** The team 0 wins so many rucks, by the player 9 + first and those behind that one. */
    private static void winRucks(Scrumward x, int first, int count) {
        for (int i = first; i < first + count; i++) {
            x.tackle(7);
            x.win(0, 9 + i);
        }
    }

    /** "When as many phases or one less were counted as at the try": two less is too long ago. */
    private static void reviewOfPhases() {
        for (int ahead = 0; ahead < 4; ahead++) {
            for (int since = 0; since < 4; since++) {
                Scrumward x = Match.open(0, 60);
                winRucks(x, 0, ahead);
                x.offend(0, 'f', false);
                winRucks(x, ahead, since);
                x.carry(100);
                x.ground();
                String what = "28 " + ahead + " phases, then " + since;
                CHECK.due(what, x.review(), since <= 1 ? 'f' : 'c');
                CHECK.due(what + ", points", x.points(0), since <= 1 ? 0 : 5);
            }
        }
    }

    /** "The first offence that was not seen." */
    private static void reviewOfTheFirst() {
        Scrumward x = Match.open(0, 60);
        x.offend(0, 's', false);
        winRucks(x, 0, 1);
        x.carry(63);
        x.offend(0, 'f', false);
        winRucks(x, 1, 1);
        x.offend(0, 'p', false);
        x.carry(100);
        x.ground();
        CHECK.due("28 the first of those that are near enough", x.review(), 'f');
        behind("28 at its place", x, 'f', 1, 63);
    }

    /** "Told since play went on last." */
    private static void reviewSinceTheStop() {
        for (char kind : KINDS) {
            Scrumward x = Match.open(0, 60);
            x.offend(0, 'p', false);
            x.offend(1, kind, true);
            x.blow();
            if (!x.restart(9)) {
                x.win(0, 9);
            }
            x.carry(100);
            x.ground();
            CHECK.due("28 told ahead of the stop", x.review(), 'c');
        }
        for (char kind : new char[] {'s', 'l'}) {
            Scrumward x = Match.coming(kind);
            x.restart(1);
            x.offend(0, 'p', false);
            x.win(0, 9);
            x.carry(100);
            x.ground();
            CHECK.due("28 told since it went on, in the " + kind, x.review(), 'p');
        }
        Scrumward y = tryWithUnseen(0, 'p');
        y.kick(false);
        y.restart(8);
        y.carry(100);
        y.ground();
        CHECK.due("28 that of another try", y.review(), 'c');
    }

    /** "Of the team that made it." */
    private static void reviewOfTheTeam() {
        for (int team = 0; team < 2; team++) {
            Scrumward x = Match.open(team, Match.goal(team));
            x.offend(1 - team, 'p', false);
            x.offend(1 - team, 's', true);
            x.ground();
            CHECK.due("28 one of the other team, and one that was seen", x.review(), 'c');
            Scrumward y = Match.open(team, Match.goal(team));
            y.offend(1 - team, 'p', false);
            y.offend(team, 's', false);
            y.ground();
            CHECK.due("28 the one behind it", y.review(), 's');
        }
    }
}
