/** Promises 29 to 34: cards, replacements and numbers on the field. */
public final class CardsTest {
    private static final Check CHECK = new Check("CardsTest");

    public static void main(String[] args) {
        card();
        secondYellow();
        cardErrors();
        decide();
        decideSecond();
        yellowSeconds();
        yellowTooMany();
        redSeconds();
        comeBackFromCover();
        coversOfCovers();
        comeBackErrors();
        replace();
        eightReplacements();
        replaceErrors();
        numbers();
        CHECK.end();
    }

    private static void card() {
        Scrumward x = Match.stopped(0);
        CHECK.due("29 yellow", x.card(0, 1, 'y'), false);
        CHECK.due("29 red", x.card(0, 2, 'r'), true);
        CHECK.due("29 under decision", x.card(0, 3, 'b'), false);
        CHECK.due("33 three off", x.onField(0), 12);
        CHECK.due("34 three off", x.allowed(0), 12);
        CHECK.due("33 the other team", x.onField(1), 15);
        CHECK.due("34 the other team", x.allowed(1), 15);
        for (int player = 1; player <= 3; player++) {
            int number = player;
            CHECK.fails("4 off", java.util.NoSuchElementException.class, () -> x.placeOf(0, number));
        }
        for (int i = 0; i < 3; i++) {
            CHECK.due("36 team", x.decision(i + 1, 't'), 0);
            CHECK.due("36 place", x.decision(i + 1, 'p'), -1);
            CHECK.due("36 kind", x.decision(i + 1, 'k'), "yrb".charAt(i));
        }
    }

    private static void secondYellow() {
        Scrumward x = Match.stopped(0);
        x.card(1, 4, 'y');
        Match.playAndStop(x, 600);
        x.comeBack(1, 4);
        CHECK.due("29 the second is red", x.card(1, 4, 'y'), true);
        CHECK.due("36 told as red", x.decision(x.decisions() - 1, 'k'), 'r');
        CHECK.due("36 its team", x.decision(x.decisions() - 1, 't'), 1);
        Match.playAndStop(x, 600);
        CHECK.fails("31 for the rest", UnsupportedOperationException.class, () -> x.comeBack(1, 4));
        CHECK.due("34 for the rest", x.allowed(1), 14);
        Scrumward y = Match.stopped(0);
        y.card(1, 4, 'y');
        Match.playAndStop(y, 600);
        y.comeBack(1, 4);
        CHECK.due("29 under decision first", y.card(1, 4, 'b'), false);
        CHECK.due("36 told as b", y.decision(y.decisions() - 1, 'k'), 'b');
    }

    private static void cardErrors() {
        Scrumward x = Match.stopped(0);
        for (int team : new int[] {-1, 2}) {
            CHECK.fails("29 team", IndexOutOfBoundsException.class, () -> x.card(team, 1, 'z'));
            CHECK.fails("30 team", IndexOutOfBoundsException.class, () -> x.decide(team, 1, true));
        }
        for (int player : new int[] {-1, 0, 24}) {
            CHECK.fails("29 player", IndexOutOfBoundsException.class, () -> x.card(0, player, 'y'));
            CHECK.fails("30 player", IndexOutOfBoundsException.class, () -> x.decide(0, player, true));
        }
        CHECK.fails("29 kind", IllegalArgumentException.class, () -> x.card(0, 16, 'Y'));
        CHECK.fails("29 bench", UnsupportedOperationException.class, () -> x.card(0, 16, 'y'));
        x.card(0, 1, 'y');
        CHECK.fails("29 off", UnsupportedOperationException.class, () -> x.card(0, 1, 'r'));
        CHECK.fails("29 play goes on", IllegalStateException.class, () -> Match.open(0, 50).card(0, 16, 'y'));
        CHECK.fails("29 no period", IllegalStateException.class, () -> new Scrumward().card(0, 1, 'y'));
        CHECK.fails("29 first the kind", IllegalArgumentException.class, () -> new Scrumward().card(0, 1, 'x'));
        CHECK.fails("30 on the field", UnsupportedOperationException.class, () -> x.decide(0, 2, false));
        CHECK.fails("30 yellow", UnsupportedOperationException.class, () -> x.decide(0, 1, false));
        CHECK.due("35 no more", x.decisions(), 2);
    }

    private static void decide() {
        Scrumward v = Match.stopped(0);
        Match.playAndStop(v, 1000);
        v.card(0, 1, 'b');
        Match.playAndStop(v, 479);
        CHECK.due("30 since it was shown", v.decide(0, 1, false), true);
        Scrumward x = Match.stopped(0);
        x.card(0, 1, 'b');
        x.card(0, 2, 'b');
        x.card(0, 3, 'b');
        CHECK.fails("31 under decision", UnsupportedOperationException.class, () -> x.comeBack(0, 1));
        Match.playAndStop(x, 479);
        CHECK.due("30 479 seconds", x.decide(0, 1, false), true);
        CHECK.due("34 off all the same", x.allowed(0), 12);
        Match.playAndStop(x, 1);
        CHECK.due("30 480 seconds", x.decide(0, 2, true), false);
        CHECK.fails("30 decided", UnsupportedOperationException.class, () -> x.decide(0, 2, false));
        Match.playAndStop(x, 120);
        CHECK.due("34 the yellow one's seconds are since it was shown", x.allowed(0), 13);
        CHECK.due("31 back", x.comeBack(0, 1), 13);
        CHECK.fails("31 red", UnsupportedOperationException.class, () -> x.comeBack(0, 2));
        Match.playAndStop(x, 600);
        CHECK.due("34 until it is decided", x.allowed(0), 13);
        x.restart(11);
        CHECK.due("30 while play goes on, as yellow", x.decide(0, 3, false), false);
        CHECK.due("34 at once", x.allowed(0), 14);
        CHECK.due("35 no card is shown", x.decision(x.decisions() - 1, 'k'), 'l');
    }

    private static void decideSecond() {
        Scrumward x = new Scrumward();
        x.law('r', 1300);
        x.begin(0);
        x.card(0, 1, 'y');
        x.card(0, 2, 'b');
        x.decide(0, 2, false);
        Match.playAndStop(x, 600);
        x.comeBack(0, 1);
        x.comeBack(0, 2);
        CHECK.due("29 one decided as yellow counts", x.card(0, 2, 'y'), true);
        x.card(0, 1, 'b');
        Match.playAndStop(x, 700);
        CHECK.due("30 the second yellow", x.decide(0, 1, false), false);
        CHECK.fails("31 is red", UnsupportedOperationException.class, () -> x.comeBack(0, 1));
        CHECK.due("34 both are red", x.allowed(0), 13);
        Match.playAndStop(x, 599);
        CHECK.due("34 1299 seconds", x.allowed(0), 13);
        Match.playAndStop(x, 1);
        CHECK.due("34 1300 seconds since both were shown", x.allowed(0), 15);
        CHECK.fails("31 red for the rest", UnsupportedOperationException.class, () -> x.comeBack(0, 1));
    }

    private static void yellowSeconds() {
        Scrumward x = Match.stopped(0);
        x.card(0, 1, 'y');
        x.pass(600);
        Match.playAndStop(x, 599);
        CHECK.due("34 599 seconds", x.allowed(0), 14);
        CHECK.fails("31 too early", UnsupportedOperationException.class, () -> x.comeBack(0, 1));
        Match.playAndStop(x, 1);
        CHECK.due("34 600 seconds, though not back", x.allowed(0), 15);
        CHECK.due("33 not back", x.onField(0), 14);
        CHECK.due("31 back", x.comeBack(0, 1), 15);
        CHECK.due("4 at 50", x.placeOf(0, 1), 50);
        CHECK.fails("31 on the field", UnsupportedOperationException.class, () -> x.comeBack(0, 1));
        Scrumward v = Match.stopped(0);
        Match.playAndStop(v, 500);
        v.card(0, 1, 'y');
        Match.playAndStop(v, 599);
        CHECK.fails("31 too early since it was shown", UnsupportedOperationException.class, () -> v.comeBack(0, 1));
        Scrumward y = Match.stopped(0);
        Match.playAndStop(y, 2000);
        y.card(0, 1, 'y');
        Match.playAndStop(y, 400);
        CHECK.due("10 ended", y.period(), -1);
        y.begin(0);
        y.restart(11);
        y.pass(199);
        CHECK.due("34 over periods", y.allowed(0), 14);
        y.pass(1);
        CHECK.due("34 over periods, 600", y.allowed(0), 15);
        Scrumward z = new Scrumward();
        z.law('y', 50);
        z.begin(0);
        z.card(0, 1, 'y');
        Match.playAndStop(z, 50);
        CHECK.due("2 the law's seconds", z.comeBack(0, 1), 15);
    }

    private static void yellowTooMany() {
        Scrumward x = Match.stopped(0);
        x.card(0, 1, 'y');
        CHECK.fails("32 one too many", UnsupportedOperationException.class, () -> x.replace(0, 0, 16, 't'));
        Match.playAndStop(x, 600);
        CHECK.due("32 instead of the yellow one", x.replace(0, 0, 16, 't'), 1);
        CHECK.due("4 at 50", x.placeOf(0, 16), 50);
        CHECK.fails("31 one too many", UnsupportedOperationException.class, () -> x.comeBack(0, 1));
        x.card(0, 16, 'y');
        CHECK.fails("31 still", UnsupportedOperationException.class, () -> x.comeBack(0, 1));
        Match.playAndStop(x, 600);
        CHECK.due("31 then", x.comeBack(0, 1), 15);
    }

    private static void redSeconds() {
        Scrumward x = new Scrumward();
        x.law('r', 100);
        x.begin(0);
        x.card(1, 1, 'r');
        x.card(1, 2, 'b');
        Match.playAndStop(x, 99);
        CHECK.due("34 99 seconds", x.allowed(1), 13);
        Match.playAndStop(x, 1);
        CHECK.due("34 100 seconds", x.allowed(1), 14);
        x.decide(1, 2, true);
        CHECK.due("34 those since it was shown", x.allowed(1), 15);
        CHECK.fails("31 not back", UnsupportedOperationException.class, () -> x.comeBack(1, 1));
        CHECK.due("32 another one", x.replace(1, 0, 16, 't'), 1);
        CHECK.due("33 one more", x.onField(1), 14);
        Scrumward y = Match.stopped(0);
        y.card(1, 1, 'r');
        Match.playAndStop(y, 2399);
        CHECK.due("34 never", y.allowed(1), 14);
    }

    private static void comeBackFromCover() {
        Scrumward x = Match.stopped(0);
        x.setPlace(0, 1, 33);
        CHECK.due("32 b", x.replace(0, 1, 16, 'b'), 0);
        CHECK.due("4 at the place of the other one", x.placeOf(0, 16), 33);
        CHECK.due("32 h", x.replace(0, 2, 18, 'h'), 0);
        CHECK.due("32 b", x.replace(0, 3, 17, 'b'), 0);
        CHECK.due("32 h", x.replace(0, 4, 19, 'h'), 0);
        Match.playAndStop(x, 720);
        x.setPlace(0, 18, 71);
        CHECK.due("31 h, 720 seconds", x.comeBack(0, 2), 15);
        CHECK.due("4 where the other one is", x.placeOf(0, 2), 71);
        Match.playAndStop(x, 1);
        CHECK.fails("31 h, 721 seconds", UnsupportedOperationException.class, () -> x.comeBack(0, 4));
        Match.playAndStop(x, 179);
        CHECK.due("31 b, 900 seconds", x.comeBack(0, 1), 15);
        Match.playAndStop(x, 1);
        CHECK.fails("31 b, 901 seconds", UnsupportedOperationException.class, () -> x.comeBack(0, 3));
        CHECK.due("32 the other one is on the bench again", x.replace(0, 5, 16, 't'), 1);
        CHECK.fails("31 gone", UnsupportedOperationException.class, () -> x.comeBack(0, 5));
        CHECK.fails("32 too late is not the bench", UnsupportedOperationException.class, () -> x.replace(0, 6, 3, 't'));
        Scrumward y = Match.stopped(0);
        Match.playAndStop(y, 1000);
        y.replace(1, 2, 18, 'h');
        Match.playAndStop(y, 720);
        CHECK.due("31 since the replacement", y.comeBack(1, 2), 15);
        y.replace(1, 1, 16, 'b');
        CHECK.due("31 at once", y.comeBack(1, 1), 15);
        CHECK.fails("31 the bench", UnsupportedOperationException.class, () -> y.comeBack(1, 16));
    }

    private static void coversOfCovers() {
        Scrumward x = Match.stopped(0);
        x.replace(0, 9, 21, 'b');
        x.replace(0, 21, 22, 'b');
        CHECK.fails("31 the other one is off", UnsupportedOperationException.class, () -> x.comeBack(0, 9));
        CHECK.due("31 the other one", x.comeBack(0, 21), 15);
        CHECK.due("31 then", x.comeBack(0, 9), 15);
        CHECK.due("32 22 is on the bench", x.replace(0, 1, 22, 't'), 1);
        CHECK.due("32 21 too", x.replace(0, 2, 21, 'i'), 2);
        Scrumward y = Match.stopped(0);
        y.replace(0, 9, 21, 'b');
        y.card(0, 21, 'y');
        CHECK.fails("31 the other one is off by a card", UnsupportedOperationException.class, () -> y.comeBack(0, 9));
        Match.playAndStop(y, 600);
        y.comeBack(0, 21);
        CHECK.due("31 for the one who is back", y.comeBack(0, 9), 15);
        CHECK.due("4 at 50", y.placeOf(0, 9), 50);
        Scrumward z = Match.stopped(0);
        z.replace(0, 9, 21, 'h');
        z.replace(0, 21, 22, 't');
        CHECK.fails("31 the other one is gone", UnsupportedOperationException.class, () -> z.comeBack(0, 9));
        z.card(0, 1, 'y');
        CHECK.due("32 one for one with a card shown", z.replace(0, 2, 18, 't'), 2);
        CHECK.due("33 stays", z.onField(0), 14);
    }

    private static void comeBackErrors() {
        Scrumward x = Match.stopped(0);
        for (int team : new int[] {-1, 2}) {
            CHECK.fails("31 team", IndexOutOfBoundsException.class, () -> x.comeBack(team, 1));
        }
        for (int player : new int[] {-1, 0, 24}) {
            CHECK.fails("31 player", IndexOutOfBoundsException.class, () -> x.comeBack(0, player));
        }
        CHECK.fails("31 bench", UnsupportedOperationException.class, () -> x.comeBack(0, 16));
        x.replace(0, 1, 16, 'b');
        x.restart(11);
        CHECK.fails("31 play goes on", IllegalStateException.class, () -> x.comeBack(0, 1));
        CHECK.fails("31 no period", IllegalStateException.class, () -> new Scrumward().comeBack(0, 1));
        CHECK.fails("31 first the player", IndexOutOfBoundsException.class, () -> new Scrumward().comeBack(0, 24));
    }

    private static void replace() {
        Scrumward x = Match.stopped(0);
        x.setPlace(1, 10, 12);
        CHECK.due("32 t", x.replace(1, 10, 22, 't'), 1);
        CHECK.due("4 place", x.placeOf(1, 22), 12);
        CHECK.due("32 i", x.replace(1, 11, 23, 'i'), 2);
        CHECK.due("32 b", x.replace(1, 12, 21, 'b'), 2);
        CHECK.due("32 the other team", x.replace(0, 10, 22, 't'), 1);
        CHECK.due("33 stays", x.onField(1), 15);
        CHECK.fails("32 gone", UnsupportedOperationException.class, () -> x.replace(1, 22, 10, 't'));
        CHECK.fails("31 gone", UnsupportedOperationException.class, () -> x.comeBack(1, 10));
        CHECK.fails("31 gone by i", UnsupportedOperationException.class, () -> x.comeBack(1, 11));
        CHECK.due("35 no decisions", x.decisions(), 1);
    }

    private static void eightReplacements() {
        Scrumward x = Match.stopped(0);
        for (int i = 0; i < 7; i++) {
            CHECK.due("32 number", x.replace(0, i + 1, 16 + i, i % 2 == 0 ? 't' : 'i'), i + 1);
        }
        x.replace(0, 8, 23, 'b');
        x.comeBack(0, 8);
        CHECK.due("32 the eighth", x.replace(0, 9, 23, 'i'), 8);
        Scrumward y = Match.stopped(0);
        y.card(0, 15, 'y');
        for (int i = 0; i < 7; i++) {
            y.replace(0, i + 1, 16 + i, 't');
        }
        Match.playAndStop(y, 600);
        CHECK.due("32 none for one counts", y.replace(0, 0, 23, 't'), 8);
        CHECK.fails("32 a full bench is empty", UnsupportedOperationException.class, () -> y.replace(0, 8, 23, 'b'));
    }

    private static void replaceErrors() {
        Scrumward x = Match.stopped(0);
        for (int team : new int[] {-1, 2}) {
            CHECK.fails("32 team", IndexOutOfBoundsException.class, () -> x.replace(team, 1, 16, 'z'));
        }
        for (int player : new int[] {-1, 0, 24}) {
            CHECK.fails("32 on", IndexOutOfBoundsException.class, () -> x.replace(0, 1, player, 't'));
        }
        for (int player : new int[] {-1, 24}) {
            CHECK.fails("32 off", IndexOutOfBoundsException.class, () -> x.replace(0, player, 16, 't'));
        }
        CHECK.fails("32 kind", IllegalArgumentException.class, () -> x.replace(0, 1, 16, 'x'));
        for (char kind : new char[] {'i', 'b', 'h', 'x'}) {
            CHECK.fails("32 none for " + kind, IllegalArgumentException.class, () -> x.replace(0, 0, 16, kind));
        }
        CHECK.fails("32 too many", UnsupportedOperationException.class, () -> x.replace(0, 0, 16, 't'));
        CHECK.fails("32 off is on the bench", UnsupportedOperationException.class, () -> x.replace(0, 17, 16, 't'));
        CHECK.fails("32 on is on the field", UnsupportedOperationException.class, () -> x.replace(0, 1, 2, 't'));
        CHECK.fails("32 both the same", UnsupportedOperationException.class, () -> x.replace(0, 1, 1, 't'));
        x.card(0, 1, 'y');
        CHECK.fails("32 off by a card", UnsupportedOperationException.class, () -> x.replace(0, 1, 16, 't'));
        CHECK.fails("32 on from a card", UnsupportedOperationException.class, () -> x.replace(0, 2, 1, 't'));
        CHECK.fails("32 play goes on", IllegalStateException.class, () -> Match.open(0, 50).replace(0, 17, 16, 't'));
        CHECK.fails("32 no period", IllegalStateException.class, () -> new Scrumward().replace(0, 1, 16, 't'));
        CHECK.fails("32 first the kind", IllegalArgumentException.class, () -> new Scrumward().replace(0, 1, 16, 'x'));
        CHECK.due("33 unchanged", x.onField(0), 14);
    }

    private static void numbers() {
        Scrumward x = new Scrumward();
        for (int team : new int[] {-1, 2, Integer.MAX_VALUE, Integer.MIN_VALUE}) {
            CHECK.fails("33 team", IndexOutOfBoundsException.class, () -> x.onField(team));
            CHECK.fails("34 team", IndexOutOfBoundsException.class, () -> x.allowed(team));
        }
        x.begin(0);
        for (int player = 1; player <= 15; player++) {
            x.card(1, player, 'r');
            CHECK.due("33 down", x.onField(1), 15 - player);
            CHECK.due("34 down", x.allowed(1), 15 - player);
        }
        CHECK.due("42 none on the field", x.isConsistent(), true);
    }
}
