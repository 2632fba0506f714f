import java.util.NoSuchElementException;

/** Terms: cards and numbers; a test for each sentence that names a boundary. */
public final class NumberBoundsTest {
    private static final Check CHECK = new Check("NumberBoundsTest");
    private static final Class<? extends RuntimeException> UNSUPPORTED = UnsupportedOperationException.class;

    public static void main(String[] args) {
        fifteenLessThoseOff();
        yellowSeconds();
        yellowSecondsOfLaws();
        yellowOverPeriods();
        yellowNotWhileStopped();
        yellowOfSomeoneWhoStaysOff();
        secondYellow();
        firstYellowOfOthers();
        redForTheRest();
        redSecondsOfLaws();
        redIsReplaced();
        underDecision();
        decidedYellow();
        decidedRed();
        decidedSecondYellow();
        decidedWithinSeconds();
        decideRefused();
        replacements();
        CHECK.end();
    }

    private static void replacements() {
        placesOfThoseWhoComeOn();
        goneForGood();
        eightAtMost();
        temporaryOnesAreNotCounted();
        bloodSeconds();
        headSeconds();
        secondsOfEachCover();
        benchAgain();
        comeBackRefused();
        otherOneNotOnTheField();
        tooManyByComingBack();
        fewerThanItMayHave();
        replaceRefused();
        fullAndEmpty();
    }

    /** After so many seconds of play the team 0 is as it should be. */
    private static void numbers(String what, Scrumward x, int on, int allowed) {
        CHECK.due(what + ", onField", x.onField(0), on);
        CHECK.due(what + ", allowed", x.allowed(0), allowed);
    }

    /** "A team may have 15 players on the field, less those off by cards." */
    private static void fifteenLessThoseOff() {
        Scrumward x = Match.stopped(0);
        numbers("34 none off", x, 15, 15);
        char[] kinds = {'y', 'r', 'b'};
        for (int player = 1; player <= 15; player++) {
            x.card(0, player, kinds[player % 3]);
            numbers("34 off " + player, x, 15 - player, 15 - player);
            CHECK.due("34 the other team", x.allowed(1), 15);
        }
        CHECK.refuses("32 none to go on", UNSUPPORTED, x, () -> x.replace(0, 0, 16, 't'));
        CHECK.due("42 with none", x.isConsistent(), true);
    }

    private static Scrumward carded(char kind) {
        Scrumward x = Match.stopped(0);
        x.card(0, 1, kind);
        return x;
    }

    /** "A yellow card takes a player off for 600 seconds of play at first": "a yellow one up to its seconds". */
    private static void yellowSeconds() {
        for (int ahead : new int[] {0, 500}) {
            Scrumward x = Match.stopped(0);
            Match.playLong(x, ahead);
            x.card(0, 1, 'y');
            numbers("34 shown", x, 14, 14);
            CHECK.refuses("31 at once", UNSUPPORTED, x, () -> x.comeBack(0, 1));
            Match.playLong(x, 599);
            numbers("34 599 seconds", x, 14, 14);
            CHECK.refuses("31 599 seconds", UNSUPPORTED, x, () -> x.comeBack(0, 1));
            Match.playLong(x, 1);
            numbers("34 600 seconds", x, 14, 15);
            CHECK.due("31 600 seconds", x.comeBack(0, 1), 15);
            numbers("34 back", x, 15, 15);
        }
    }

    private static void yellowSecondsOfLaws() {
        for (int seconds : new int[] {1, 2, 1199, 1200}) {
            Scrumward x = new Scrumward();
            x.law('y', seconds);
            x.begin(0);
            x.card(0, 1, 'y');
            Match.playLong(x, seconds - 1);
            numbers("2 one less than " + seconds, x, 14, 14);
            CHECK.refuses("2 one less than " + seconds, UNSUPPORTED, x, () -> x.comeBack(0, 1));
            Match.playLong(x, 1);
            numbers("2 the seconds " + seconds, x, 14, 15);
            CHECK.due("2 back", x.comeBack(0, 1), 15);
        }
    }

    /** "Counted over periods." */
    private static void yellowOverPeriods() {
        Scrumward x = Match.stopped(0);
        Match.playAndStop(x, 2300);
        x.card(0, 1, 'y');
        Match.playAndStop(x, 100);
        CHECK.due("34 between the periods", x.allowed(0), 14);
        x.begin(0);
        CHECK.due("34 in the next one", x.allowed(0), 14);
        Match.playAndStop(x, 499);
        CHECK.due("34 599 seconds over both", x.allowed(0), 14);
        CHECK.refuses("31 599 seconds over both", UNSUPPORTED, x, () -> x.comeBack(0, 1));
        Match.playAndStop(x, 1);
        CHECK.due("34 600 seconds over both", x.allowed(0), 15);
        CHECK.due("31 600 seconds over both", x.comeBack(0, 1), 15);
    }

    /** "600 seconds of play": none while play is stopped. */
    private static void yellowNotWhileStopped() {
        Scrumward x = carded('y');
        x.pass(600);
        x.pass(600);
        numbers("34 stopped", x, 14, 14);
        CHECK.refuses("31 stopped", UNSUPPORTED, x, () -> x.comeBack(0, 1));
        x.restart(8);
        x.tackle(7);
        x.pass(300);
        x.win(0, 9);
        x.pass(300);
        CHECK.due("34 each play counts", x.allowed(0), 15);
    }

    /** "Also if the player does not come back then." */
    private static void yellowOfSomeoneWhoStaysOff() {
        Scrumward x = carded('y');
        Match.playLong(x, 600);
        CHECK.due("32 another one instead", x.replace(0, 0, 16, 't'), 1);
        numbers("34 full", x, 15, 15);
        Match.playLong(x, 600);
        numbers("34 later", x, 15, 15);
        x.card(0, 2, 'r');
        CHECK.refuses("31 one off, but full", UNSUPPORTED, x, () -> x.comeBack(0, 1));
    }

    /** The first yellow card of the player by showing or by a decision, then back again. */
    private static Scrumward back(boolean isDecided) {
        Scrumward x = Match.stopped(0);
        x.card(0, 1, isDecided ? 'b' : 'y');
        if (isDecided) {
            x.decide(0, 1, false);
        }
        Match.playLong(x, 600);
        x.comeBack(0, 1);
        return x;
    }

    /** "A second yellow card of a player is red": each first one with each second one. */
    private static void secondYellow() {
        for (int first = 0; first < 2; first++) {
            Scrumward x = back(first == 1);
            int rows = x.decisions();
            CHECK.due("29 the second", x.card(0, 1, 'y'), true);
            CHECK.due("36 r for it", x.decision(rows, 'k'), 'r');
            CHECK.due("36 its team", x.decision(rows, 't'), 0);
            numbers("34 off", x, 14, 14);
            Match.playLong(x, 601);
            numbers("34 off for the rest", x, 14, 14);
            CHECK.refuses("31 off for the rest", UNSUPPORTED, x, () -> x.comeBack(0, 1));
            Scrumward y = back(first == 1);
            CHECK.due("29 under decision, not red yet", y.card(0, 1, 'b'), false);
            y.decide(0, 1, false);
            Match.playLong(y, 601);
            numbers("30 the second one by a decision", y, 14, 14);
            CHECK.refuses("31 red", UNSUPPORTED, y, () -> y.comeBack(0, 1));
        }
    }

    /** A first one of another player, or of the same number of the other team, is yellow. */
    private static void firstYellowOfOthers() {
        Scrumward x = back(false);
        CHECK.due("29 another player", x.card(0, 2, 'y'), false);
        CHECK.due("29 the same number", x.card(1, 1, 'y'), false);
        CHECK.due("29 red is red", x.card(0, 3, 'r'), true);
        CHECK.due("29 under decision", x.card(0, 4, 'b'), false);
        String kinds = "yyrb";
        for (int i = 0; i < 4; i++) {
            CHECK.due("36 as shown " + i, x.decision(x.decisions() - 4 + i, 'k'), kinds.charAt(i));
            CHECK.due("36 no place " + i, x.decision(x.decisions() - 4 + i, 'p'), -1);
            CHECK.due("36 seconds " + i, x.decision(x.decisions() - 4 + i, 's'), 600);
        }
    }

    /** "Red is for the rest of the match." */
    private static void redForTheRest() {
        Scrumward x = carded('r');
        for (int i = 0; i < 4; i++) {
            Match.playLong(x, 1100);
            numbers("34 red", x, 14, 14);
            CHECK.refuses("31 red", UNSUPPORTED, x, () -> x.comeBack(0, 1));
            CHECK.refuses("32 red is not replaced", UNSUPPORTED, x, () -> x.replace(0, 0, 16, 't'));
        }
    }

    /** "But, if the law says behind how many seconds, the player does not count as off any more then." */
    private static void redSecondsOfLaws() {
        for (int seconds : new int[] {1, 2, 1300, 2399, 2400}) {
            Scrumward x = new Scrumward();
            x.law('r', seconds);
            x.begin(0);
            Match.playLong(x, 10);
            x.card(0, 1, 'r');
            numbers("2 shown", x, 14, 14);
            Match.playLong(x, seconds - 1);
            numbers("2 one less than " + seconds, x, 14, 14);
            CHECK.refuses("2 too many", UNSUPPORTED, x, () -> x.replace(0, 0, 16, 't'));
            Match.playLong(x, 1);
            numbers("2 the seconds " + seconds, x, 14, 15);
            CHECK.refuses("31 red all the same", UNSUPPORTED, x, () -> x.comeBack(0, 1));
        }
    }

    private static void redIsReplaced() {
        Scrumward x = new Scrumward();
        x.law('r', 100);
        x.begin(0);
        x.card(0, 1, 'r');
        Match.playLong(x, 100);
        CHECK.due("32 another one", x.replace(0, 0, 16, 't'), 1);
        numbers("34 full", x, 15, 15);
        CHECK.refuses("32 one more is too many", UNSUPPORTED, x, () -> x.replace(0, 0, 17, 't'));
        CHECK.refuses("32 the red one is not on the bench", UNSUPPORTED, x, () -> x.replace(0, 2, 1, 't'));
    }

    /** "A player under decision is off until it is decided", however long. */
    private static void underDecision() {
        Scrumward x = carded('b');
        for (int i = 0; i < 3; i++) {
            Match.playLong(x, 1000);
            numbers("34 under decision", x, 14, 14);
            CHECK.refuses("31 under decision", UNSUPPORTED, x, () -> x.comeBack(0, 1));
            CHECK.refuses("29 under decision", UNSUPPORTED, x, () -> x.card(0, 1, 'y'));
        }
        x.decide(0, 1, false);
        numbers("34 its seconds are over", x, 14, 15);
        CHECK.due("31 back", x.comeBack(0, 1), 15);
    }

    /** "If it is not red, it is a yellow card then"; "seconds are always those since the card was shown." */
    private static void decidedYellow() {
        for (int seconds : new int[] {0, 1, 300, 598, 599}) {
            Scrumward x = carded('b');
            Match.playLong(x, seconds);
            int rows = x.decisions();
            x.decide(0, 1, false);
            CHECK.due("35 no card is shown", x.decisions(), rows);
            numbers("34 decided at " + seconds, x, 14, 14);
            CHECK.refuses("31 decided at " + seconds, UNSUPPORTED, x, () -> x.comeBack(0, 1));
            Match.playLong(x, 599 - seconds);
            numbers("34 599 seconds", x, 14, 14);
            Match.playLong(x, 1);
            numbers("34 600 seconds", x, 14, 15);
            CHECK.due("31 600 seconds", x.comeBack(0, 1), 15);
        }
        Scrumward y = carded('b');
        Match.playLong(y, 600);
        y.decide(0, 1, false);
        CHECK.due("31 decided at 600, back at once", y.comeBack(0, 1), 15);
    }

    private static void decidedRed() {
        for (int seconds : new int[] {0, 99, 100, 101}) {
            Scrumward x = new Scrumward();
            x.law('r', 100);
            x.begin(0);
            x.card(0, 1, 'b');
            Match.playLong(x, seconds);
            numbers("34 under decision", x, 14, 14);
            x.decide(0, 1, true);
            numbers("34 red decided at " + seconds, x, 14, seconds < 100 ? 14 : 15);
            CHECK.refuses("31 red", UNSUPPORTED, x, () -> x.comeBack(0, 1));
            Match.playLong(x, Math.max(100 - seconds, 0));
            numbers("34 red, 100 seconds since it was shown", x, 14, 15);
        }
        Scrumward y = carded('b');
        Match.playLong(y, 1000);
        y.decide(0, 1, true);
        numbers("34 red for the rest", y, 14, 14);
        CHECK.refuses("31 red for the rest", UNSUPPORTED, y, () -> y.comeBack(0, 1));
    }

    /** "A yellow card then, which can be the second one." */
    private static void decidedSecondYellow() {
        Scrumward x = new Scrumward();
        x.law('r', 900);
        x.begin(0);
        x.card(0, 1, 'y');
        Match.playLong(x, 600);
        x.comeBack(0, 1);
        x.card(0, 1, 'b');
        Match.playLong(x, 700);
        x.decide(0, 1, false);
        numbers("30 it is red", x, 14, 14);
        CHECK.refuses("30 not back as from yellow", UNSUPPORTED, x, () -> x.comeBack(0, 1));
        Match.playLong(x, 199);
        numbers("30 899 seconds since it was shown", x, 14, 14);
        Match.playLong(x, 1);
        numbers("30 900 seconds since it was shown", x, 14, 15);
    }

    /** "Returns true if the player was off under decision for fewer than 480 seconds of play." */
    private static void decidedWithinSeconds() {
        for (int seconds : new int[] {0, 1, 479, 480, 481, 1000}) {
            for (int ahead : new int[] {0, 777}) {
                for (int red = 0; red < 2; red++) {
                    Scrumward x = Match.stopped(0);
                    Match.playLong(x, ahead);
                    x.card(0, 1, 'b');
                    x.pass(600);
                    Match.playLong(x, seconds);
                    CHECK.due("30 " + seconds + " seconds", x.decide(0, 1, red == 1), seconds < 480);
                    CHECK.refuses("30 decided", UNSUPPORTED, x, () -> x.decide(0, 1, true));
                }
            }
        }
    }

    private static void decideRefused() {
        Scrumward x = Match.stopped(0);
        x.card(0, 1, 'y');
        x.card(0, 2, 'r');
        x.card(0, 3, 'b');
        x.replace(0, 4, 16, 't');
        x.replace(0, 5, 17, 'b');
        for (int player : new int[] {1, 2, 4, 5, 6, 16, 17, 18, 23}) {
            CHECK.refuses("30 " + player, UNSUPPORTED, x, () -> x.decide(0, player, true));
        }
        CHECK.refuses("30 the same number of the other team", UNSUPPORTED, x, () -> x.decide(1, 3, true));
        CHECK.due("30 the one under decision", x.decide(0, 3, true), true);
        CHECK.refuses("30 decided", UNSUPPORTED, x, () -> x.decide(0, 3, true));
    }

    /** "Who comes on without one who goes off, or comes back from a card, is at the place 50." */
    private static void placesOfThoseWhoComeOn() {
        Scrumward x = Match.stopped(0);
        x.setPlace(0, 1, 7);
        x.card(0, 1, 'y');
        x.card(0, 2, 'y');
        Match.playLong(x, 600);
        x.comeBack(0, 1);
        CHECK.due("4 back from a card", x.placeOf(0, 1), 50);
        x.replace(0, 0, 16, 't');
        CHECK.due("4 without one who goes off", x.placeOf(0, 16), 50);
        for (char kind : new char[] {'t', 'i', 'b', 'h'}) {
            Scrumward y = Match.stopped(0);
            y.setPlace(0, 9, 88);
            y.replace(0, 9, 21, kind);
            CHECK.due("4 for another one, " + kind, y.placeOf(0, 21), 88);
            CHECK.refuses("4 the one who went off", NoSuchElementException.class, y, () -> y.placeOf(0, 9));
            numbers("33 as many as before", y, 15, 15);
        }
    }

    /** "For 't' and 'i' the one who goes off is gone." */
    private static void goneForGood() {
        for (char kind : new char[] {'t', 'i'}) {
            Scrumward x = Match.stopped(0);
            CHECK.due("32 one", x.replace(0, 9, 21, kind), 1);
            CHECK.refuses("31 gone", UNSUPPORTED, x, () -> x.comeBack(0, 9));
            CHECK.refuses("32 gone, on", UNSUPPORTED, x, () -> x.replace(0, 10, 9, 't'));
            CHECK.refuses("32 gone, off", UNSUPPORTED, x, () -> x.replace(0, 9, 22, 't'));
            CHECK.refuses("29 gone", UNSUPPORTED, x, () -> x.card(0, 9, 'y'));
            CHECK.refuses("3 gone", UNSUPPORTED, x, () -> x.setPlace(0, 9, 50));
            CHECK.refuses("5 gone", UNSUPPORTED, x, () -> x.isOffside(0, 9));
            x.card(0, 21, 'y');
            Match.playLong(x, 600);
            CHECK.refuses("32 gone, for none", UNSUPPORTED, x, () -> x.replace(0, 0, 9, 't'));
        }
    }

    /** "And at most 8 can be made." */
    private static void eightAtMost() {
        for (String kinds : new String[] {"tttttttt", "iiiiiiii", "titititi"}) {
            Scrumward x = Match.stopped(0);
            for (int i = 0; i < 8; i++) {
                CHECK.due("32 number " + (i + 1), x.replace(0, i + 1, 16 + i, kinds.charAt(i)), i + 1);
            }
            for (int on = 16; on <= 23; on++) {
                int number = on;
                CHECK.refuses("32 the ninth t", UNSUPPORTED, x, () -> x.replace(0, 9, number, 't'));
                CHECK.refuses("32 the ninth i", UNSUPPORTED, x, () -> x.replace(0, 9, number, 'i'));
            }
            CHECK.due("32 the other team", x.replace(1, 1, 16, 't'), 1);
        }
        Scrumward y = Match.stopped(0);
        y.card(0, 15, 'y');
        y.card(0, 14, 'y');
        Match.playLong(y, 600);
        for (int i = 0; i < 6; i++) {
            y.replace(0, i + 1, 16 + i, 'i');
        }
        CHECK.due("32 the seventh for none", y.replace(0, 0, 22, 't'), 7);
        CHECK.due("32 the eighth for none", y.replace(0, 0, 23, 't'), 8);
    }

    private static void temporaryOnesAreNotCounted() {
        Scrumward x = Match.stopped(0);
        for (int i = 0; i < 10; i++) {
            CHECK.due("32 b is not counted", x.replace(0, 9, 21, 'b'), 0);
            CHECK.due("31 back", x.comeBack(0, 9), 15);
            CHECK.due("32 h is not counted", x.replace(0, 9, 22, 'h'), 0);
            CHECK.due("31 back", x.comeBack(0, 9), 15);
        }
        for (int i = 0; i < 8; i++) {
            CHECK.due("32 eight t are left", x.replace(0, i + 1, 16 + i, 't'), i + 1);
        }
    }

    private static void coverSeconds(char kind, int most) {
        for (int seconds : new int[] {0, 1, most - 1, most, most + 1, most + 300}) {
            for (int ahead : new int[] {0, 800}) {
                Scrumward x = Match.stopped(0);
                Match.playLong(x, ahead);
                x.replace(0, 9, 21, kind);
                x.setPlace(0, 21, 66);
                x.pass(600);
                Match.playLong(x, seconds);
                if (seconds <= most) {
                    CHECK.due("31 " + kind + " " + seconds, x.comeBack(0, 9), 15);
                    CHECK.due("4 where the other one is", x.placeOf(0, 9), 66);
                } else {
                    CHECK.refuses("31 " + kind + " " + seconds, UNSUPPORTED, x, () -> x.comeBack(0, 9));
                    CHECK.due("4 the other one stays", x.placeOf(0, 21), 66);
                }
            }
        }
    }

    /** "For 'b' .. up to 900 .. seconds of play behind that." */
    private static void bloodSeconds() {
        coverSeconds('b', 900);
    }

    /** "For .. 'h' .. up to .. 720 seconds of play behind that." */
    private static void headSeconds() {
        coverSeconds('h', 720);
    }

    private static void secondsOfEachCover() {
        Scrumward x = Match.stopped(0);
        x.replace(0, 9, 21, 'h');
        Match.playLong(x, 720);
        x.comeBack(0, 9);
        x.replace(0, 9, 21, 'h');
        Match.playLong(x, 720);
        CHECK.due("31 each time its own 720", x.comeBack(0, 9), 15);
        x.replace(0, 9, 21, 'b');
        Match.playLong(x, 900);
        CHECK.due("31 then 900", x.comeBack(0, 9), 15);
        x.replace(0, 9, 22, 'h');
        Match.playLong(x, 721);
        CHECK.refuses("31 then 720 again", UNSUPPORTED, x, () -> x.comeBack(0, 9));
    }

    /** "The other one is on the bench again then." */
    private static void benchAgain() {
        for (char kind : new char[] {'b', 'h'}) {
            Scrumward x = Match.stopped(0);
            x.replace(0, 9, 21, kind);
            CHECK.refuses("32 on the field", UNSUPPORTED, x, () -> x.replace(0, 10, 21, 't'));
            CHECK.due("31 back", x.comeBack(0, 9), 15);
            CHECK.refuses("4 on the bench", NoSuchElementException.class, x, () -> x.placeOf(0, 21));
            CHECK.refuses("31 on the bench", UNSUPPORTED, x, () -> x.comeBack(0, 21));
            CHECK.refuses("29 on the bench", UNSUPPORTED, x, () -> x.card(0, 21, 'y'));
            CHECK.due("32 on again", x.replace(0, 10, 21, 't'), 1);
            CHECK.refuses("31 gone for that one", UNSUPPORTED, x, () -> x.comeBack(0, 10));
        }
    }

    /** "If the player cannot: is on the field, on the bench, gone or off by red, too early, too late, under decision." */
    private static void comeBackRefused() {
        Scrumward x = Match.stopped(0);
        x.replace(0, 7, 19, 't');
        x.replace(0, 8, 20, 'h');
        Match.playLong(x, 721);
        x.card(0, 1, 'r');
        x.card(0, 2, 'b');
        x.card(0, 3, 'y');
        String[] names = {"on the field", "the bench", "gone", "red", "too early", "too late", "under decision", "came on"};
        int[] players = {4, 23, 7, 1, 3, 8, 2, 19};
        for (int i = 0; i < players.length; i++) {
            int player = players[i];
            CHECK.refuses("31 " + names[i], UNSUPPORTED, x, () -> x.comeBack(0, player));
        }
        CHECK.refuses("31 on the field, the other team", UNSUPPORTED, x, () -> x.comeBack(1, 3));
    }

    /** "The other one is not on the field." */
    private static void otherOneNotOnTheField() {
        for (char card : new char[] {'y', 'r', 'b'}) {
            Scrumward x = Match.stopped(0);
            x.replace(0, 9, 21, 'b');
            x.card(0, 21, card);
            CHECK.refuses("31 the other one is off by " + card, UNSUPPORTED, x, () -> x.comeBack(0, 9));
        }
        for (char kind : new char[] {'t', 'i', 'b', 'h'}) {
            Scrumward x = Match.stopped(0);
            x.replace(0, 9, 21, 'b');
            x.replace(0, 21, 22, kind);
            CHECK.refuses("31 the other one went off by " + kind, UNSUPPORTED, x, () -> x.comeBack(0, 9));
        }
        Scrumward y = Match.stopped(0);
        y.replace(0, 9, 21, 'b');
        y.card(0, 21, 'y');
        Match.playLong(y, 600);
        y.comeBack(0, 21);
        CHECK.due("31 the other one is back", y.comeBack(0, 9), 15);
    }

    /** "Or there would be too many." */
    private static void tooManyByComingBack() {
        Scrumward x = Match.stopped(0);
        x.card(0, 1, 'y');
        Match.playLong(x, 300);
        x.card(0, 2, 'y');
        Match.playLong(x, 299);
        CHECK.refuses("32 nobody's seconds are over", UNSUPPORTED, x, () -> x.replace(0, 0, 16, 't'));
        Match.playLong(x, 1);
        numbers("34 the first one's seconds", x, 13, 14);
        x.replace(0, 0, 16, 't');
        CHECK.refuses("31 one too many", UNSUPPORTED, x, () -> x.comeBack(0, 1));
        Match.playLong(x, 299);
        CHECK.refuses("31 one too many still", UNSUPPORTED, x, () -> x.comeBack(0, 1));
        Match.playLong(x, 1);
        numbers("34 the second one's seconds", x, 14, 15);
        CHECK.due("31 the first one", x.comeBack(0, 1), 15);
        CHECK.refuses("31 not both", UNSUPPORTED, x, () -> x.comeBack(0, 2));
    }

    /** "Or 0 for none, where the team has fewer than it may have." */
    private static void fewerThanItMayHave() {
        Scrumward x = Match.stopped(0);
        CHECK.refuses("32 full", UNSUPPORTED, x, () -> x.replace(0, 0, 16, 't'));
        x.card(0, 1, 'y');
        x.card(0, 2, 'y');
        CHECK.refuses("32 as many as it may have", UNSUPPORTED, x, () -> x.replace(0, 0, 16, 't'));
        CHECK.due("32 one for one", x.replace(0, 3, 16, 't'), 1);
        Match.playLong(x, 600);
        CHECK.due("32 two fewer", x.replace(0, 0, 17, 't'), 2);
        CHECK.due("32 one fewer", x.replace(0, 0, 18, 't'), 3);
        CHECK.refuses("32 full again", UNSUPPORTED, x, () -> x.replace(0, 0, 19, 't'));
        numbers("34 full again", x, 15, 15);
    }

    /** "If the one is not on the field, the other one not on the bench." */
    private static void replaceRefused() {
        Scrumward x = Match.stopped(0);
        x.card(0, 1, 'y');
        x.card(0, 2, 'r');
        x.card(0, 3, 'b');
        x.replace(0, 4, 16, 't');
        x.replace(0, 5, 17, 'h');
        for (char kind : new char[] {'t', 'i', 'b', 'h'}) {
            for (int off : new int[] {1, 2, 3, 4, 5, 18, 23}) {
                CHECK.refuses("32 off " + off, UNSUPPORTED, x, () -> x.replace(0, off, 19, kind));
            }
            for (int on : new int[] {1, 2, 3, 4, 5, 6, 7, 15, 16, 17}) {
                CHECK.refuses("32 on " + on, UNSUPPORTED, x, () -> x.replace(0, 6, on, kind));
            }
        }
        for (char kind : new char[] {'i', 'b', 'h', 'T', 0}) {
            CHECK.refuses("32 none for " + kind, IllegalArgumentException.class, x, () -> x.replace(0, 0, 19, kind));
        }
        CHECK.due("32 the first that can", x.replace(0, 6, 18, 't'), 2);
        CHECK.due("32 the last that can", x.replace(0, 15, 23, 'i'), 3);
    }

    private static void fullAndEmpty() {
        Scrumward x = new Scrumward();
        x.law('r', 1);
        x.begin(0);
        for (int player = 1; player <= 15; player++) {
            x.card(0, player, 'r');
        }
        numbers("33 empty", x, 0, 0);
        CHECK.refuses("32 empty", UNSUPPORTED, x, () -> x.replace(0, 1, 16, 't'));
        x.restart(8);
        x.pass(1);
        x.kickOut(50, true);
        numbers("34 empty, but all are over", x, 0, 15);
        for (int i = 0; i < 8; i++) {
            CHECK.due("32 from an empty field", x.replace(0, 0, 16 + i, 't'), i + 1);
            numbers("33 filled by " + i, x, i + 1, 15);
        }
        CHECK.due("42 eight on the field", x.isConsistent(), true);
    }
}
