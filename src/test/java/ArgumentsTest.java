/** Every range of every argument: the last value on this side, the first on the other, and those far off. */
public final class ArgumentsTest {
    private static final Check CHECK = new Check("ArgumentsTest");
    private static final Class<? extends RuntimeException> BOUNDS = IndexOutOfBoundsException.class;
    private static final Class<? extends RuntimeException> ARGUMENT = IllegalArgumentException.class;

    private interface Use {
        void run(Scrumward x, int value);
    }

    private interface Maker {
        Scrumward make();
    }

    public static void main(String[] args) {
        teamsOfPlayers();
        teamsOfPeriodsAndPlay();
        teamsOfPoints();
        playersOfPlaces();
        playersOfPlay();
        playersOfRestarts();
        playersOfCards();
        playersOfReplacements();
        places();
        placesOfChoices();
        seconds();
        laws();
        indexes();
        signs();
        CHECK.end();
    }

    /** The call works with the least value and the most, and is refused beyond both. */
    private static void range(String what, Class<? extends RuntimeException> want, int least, int most, Maker maker,
            Use use) {
        for (int value : new int[] {least, most}) {
            Scrumward x = maker.make();
            CHECK.works(what + " " + value, () -> use.run(x, value));
        }
        Scrumward x = maker.make();
        for (int value : new int[] {least - 1, most + 1, Integer.MIN_VALUE, Integer.MAX_VALUE}) {
            CHECK.refuses(what + " " + value, want, x, () -> use.run(x, value));
        }
    }

    private static void team(String what, Maker maker, Use use) {
        range(what + " team", BOUNDS, 0, 1, maker, use);
    }

    private static void player(String what, Maker maker, Use use) {
        range(what + " player", BOUNDS, 1, 23, maker, use);
    }

    /** Each team has 23 on the field instead of 15, and a kick-off is to come. */
    private static Scrumward withLast() {
        Scrumward x = Match.stopped(1);
        x.replace(0, 15, 23, 't');
        x.replace(1, 15, 23, 't');
        return x;
    }

    /** As withLast, and the player 8 of the team 0 has the ball at 50. */
    private static Scrumward openWithLast() {
        Scrumward x = withLast();
        x.restart(8);
        x.carry(50);
        return x;
    }

    private static Scrumward ruckWithLast() {
        Scrumward x = openWithLast();
        x.tackle(7);
        return x;
    }

    private static Scrumward givenWithLast(char kind) {
        Scrumward x = openWithLast();
        x.offend(1, kind, true);
        x.blow();
        return x;
    }

    /** The players 1 and 23 of both teams are off by the card, and so many seconds have passed. */
    private static Scrumward lastCarded(char kind, int seconds) {
        Scrumward x = withLast();
        for (int team = 0; team < 2; team++) {
            x.card(team, 1, kind);
            x.card(team, 23, kind);
        }
        Match.playLong(x, seconds);
        return x;
    }

    private static void teamsOfPlayers() {
        team("3 setPlace", Scrumward::new, (x, n) -> x.setPlace(n, 1, 50));
        team("4 placeOf", Scrumward::new, (x, n) -> x.placeOf(n, 1));
        team("5 isOffside", Scrumward::new, (x, n) -> x.isOffside(n, 1));
        team("29 card", ArgumentsTest::withLast, (x, n) -> x.card(n, 1, 'y'));
        team("30 decide", () -> lastCarded('b', 0), (x, n) -> x.decide(n, 1, true));
        team("31 comeBack", () -> lastCarded('y', 600), (x, n) -> x.comeBack(n, 1));
        team("32 replace", ArgumentsTest::withLast, (x, n) -> x.replace(n, 1, 16, 'b'));
        team("33 onField", Scrumward::new, Scrumward::onField);
        team("34 allowed", Scrumward::new, Scrumward::allowed);
    }

    private static void teamsOfPeriodsAndPlay() {
        team("7 begin", Scrumward::new, Scrumward::begin);
        team("18 join", ArgumentsTest::ruckWithLast, (x, n) -> x.join(n, 1));
        team("19 win", ArgumentsTest::ruckWithLast, (x, n) -> x.win(n, 1));
        team("20 offend", ArgumentsTest::ruckWithLast, (x, n) -> x.offend(n, 'p', true));
    }

    private static void teamsOfPoints() {
        team("37 points", Scrumward::new, Scrumward::points);
        team("38 leaguePoints", () -> Match.in("over"), Scrumward::leaguePoints);
        team("39 share", () -> Match.in("over"), Scrumward::share);
    }

    private static void playersOfPlaces() {
        player("3 setPlace", ArgumentsTest::withLast, (x, n) -> x.setPlace(0, n, 50));
        player("4 placeOf", ArgumentsTest::withLast, (x, n) -> x.placeOf(1, n));
        player("5 isOffside", ArgumentsTest::withLast, (x, n) -> x.isOffside(0, n));
    }

    private static void playersOfPlay() {
        player("15 throwTo", ArgumentsTest::openWithLast, Scrumward::throwTo);
        player("16 lose", ArgumentsTest::openWithLast, (x, n) -> x.lose(n, false));
        player("17 tackle", ArgumentsTest::openWithLast, Scrumward::tackle);
        player("18 join", ArgumentsTest::ruckWithLast, (x, n) -> x.join(1, n));
        player("19 win", ArgumentsTest::ruckWithLast, (x, n) -> x.win(1, n));
    }

    private static void playersOfRestarts() {
        player("24 restart by a catch", ArgumentsTest::withLast, Scrumward::restart);
        for (char kind : new char[] {'p', 'f', 's'}) {
            player("24 restart " + kind, () -> givenWithLast(kind), Scrumward::restart);
        }
        player("24 restart of a lineout, whoever it is", () -> Match.in("l"), Scrumward::restart);
    }

    private static void playersOfCards() {
        player("29 card", ArgumentsTest::withLast, (x, n) -> x.card(1, n, 'r'));
        player("30 decide", () -> lastCarded('b', 0), (x, n) -> x.decide(1, n, false));
        player("31 comeBack", () -> lastCarded('y', 600), (x, n) -> x.comeBack(1, n));
    }

    private static void playersOfReplacements() {
        for (int off : new int[] {1, 23}) {
            Scrumward x = withLast();
            CHECK.works("32 replace off " + off, () -> x.replace(0, off, 16, 'b'));
        }
        for (int on : new int[] {16, 23}) {
            Scrumward x = Match.stopped(0);
            CHECK.works("32 replace on " + on, () -> x.replace(0, 1, on, 'b'));
        }
        Scrumward y = withLast();
        for (int wrong : new int[] {-1, 24, Integer.MIN_VALUE, Integer.MAX_VALUE}) {
            CHECK.refuses("32 replace off " + wrong, BOUNDS, y, () -> y.replace(0, wrong, 16, 't'));
            CHECK.refuses("32 replace on " + wrong, BOUNDS, y, () -> y.replace(0, 1, wrong, 't'));
        }
        CHECK.refuses("32 replace on 0", BOUNDS, y, () -> y.replace(0, 1, 0, 't'));
        CHECK.refuses("32 replace on 1", UnsupportedOperationException.class, y, () -> y.replace(0, 2, 1, 't'));
        CHECK.refuses("32 replace on 15", UnsupportedOperationException.class, y, () -> y.replace(0, 2, 15, 't'));
        CHECK.due("32 replace off 0", lastCarded('y', 600).replace(0, 0, 16, 't'), 2);
    }

    private static void places() {
        range("3 setPlace place", ARGUMENT, 0, 100, Scrumward::new, (x, n) -> x.setPlace(1, 15, n));
        range("14 carry place", ARGUMENT, 0, 100, () -> Match.in("open"), Scrumward::carry);
        range("22 kickOut place", ARGUMENT, 1, 99, () -> Match.in("open"), (x, n) -> x.kickOut(n, true));
        range("22 kickOut place", ARGUMENT, 1, 99, () -> Match.in("open"), (x, n) -> x.kickOut(n, false));
    }

    private static void placesOfChoices() {
        for (char kind : new char[] {'p', 'f'}) {
            range("25 choose t place, " + kind, ARGUMENT, 1, 99, () -> Match.coming(kind), (x, n) -> x.choose('t', n));
        }
        for (int place : new int[] {Integer.MIN_VALUE, -1, 0, 100, 101, Integer.MAX_VALUE}) {
            CHECK.due("25 the place has no meaning for g", Match.coming('p').choose('g', place), 'g');
            CHECK.due("25 the place has no meaning for s", Match.coming('p').choose('s', place), 's');
            CHECK.due("25 the place has no meaning for s", Match.coming('f').choose('s', place), 's');
        }
    }

    private static void seconds() {
        for (String state : new String[] {"open", "ruck", "scrum", "lineout", "k", "p", "g", "c"}) {
            range("8 pass seconds, " + state, ARGUMENT, 1, 600, () -> Match.in(state), Scrumward::pass);
        }
    }

    private static void laws() {
        String names = "ghabyro";
        int[] most = {50, 50, 120, 120, 1200, 2400, 1};
        for (int i = 0; i < names.length(); i++) {
            char which = names.charAt(i);
            int least = which == 'r' || which == 'o' ? 0 : 1;
            range("2 law " + which, ARGUMENT, least, most[i], Scrumward::new, (x, n) -> x.law(which, n));
            Scrumward x = new Scrumward();
            x.law(which, most[i]);
            CHECK.due("2 the one before, most " + which, x.law(which, least), most[i]);
            CHECK.due("2 the one before, least " + which, x.law(which, most[i]), least);
        }
    }

    private static void indexes() {
        range("36 decision of one", BOUNDS, 0, 0, () -> Match.stopped(0), (x, n) -> x.decision(n, 'k'));
        range("36 decision of eight", BOUNDS, 0, 7, ArgumentsTest::eightDecisions, (x, n) -> x.decision(n, 's'));
        CHECK.due("35 eight", eightDecisions().decisions(), 8);
        Scrumward x = new Scrumward();
        for (int index : new int[] {-1, 0, 1, Integer.MIN_VALUE, Integer.MAX_VALUE}) {
            CHECK.refuses("36 decision of none " + index, BOUNDS, x, () -> x.decision(index, 'k'));
        }
    }

    private static Scrumward eightDecisions() {
        Scrumward x = Match.stopped(0);
        for (int player = 1; player <= 7; player++) {
            x.card(0, player, 'y');
        }
        return x;
    }

    private static void signs() {
        signs("2 law", "ghabyro", Scrumward::new, (x, sign) -> x.law((char) sign, 1));
        signs("13 toCome", "ktp", () -> Match.stopped(0), (x, sign) -> x.toCome((char) sign));
        for (boolean isSeen : new boolean[] {true, false}) {
            signs("20 offend", "pfs", () -> Match.in("open"), (x, sign) -> x.offend(0, (char) sign, isSeen));
        }
        signs("25 choose", "gst", () -> Match.coming('p'), (x, sign) -> x.choose((char) sign, 50));
        signs("29 card", "yrb", () -> Match.stopped(0), (x, sign) -> x.card(0, 1, (char) sign));
        signs("32 replace", "tibh", () -> Match.stopped(0), (x, sign) -> x.replace(0, 1, 16, (char) sign));
        signs("32 replace for none", "t", () -> lastCarded('y', 600), (x, sign) -> x.replace(0, 0, 16, (char) sign));
        signs("36 decision", "ktps", () -> Match.stopped(0), (x, sign) -> x.decision(0, (char) sign));
    }

    /** Each of the signs that are told works, and each other one is refused. */
    private static void signs(String what, String told, Maker maker, Use use) {
        Scrumward refuser = maker.make();
        for (int i = 0; i <= 400; i++) {
            int sign = i == 400 ? Character.MAX_VALUE : i;
            if (told.indexOf(sign) < 0) {
                CHECK.refuses(what + " sign " + sign, ARGUMENT, refuser, () -> use.run(refuser, sign));
            } else {
                Scrumward x = maker.make();
                CHECK.works(what + " sign " + sign, () -> use.run(x, sign));
            }
        }
    }
}
