/** If several conditions for an exception hold, the one that is listed first is thrown, and nothing changes. */
public final class OrderTest {
    private static final Check CHECK = new Check("OrderTest");
    private static final Class<? extends RuntimeException> BOUNDS = IndexOutOfBoundsException.class;
    private static final Class<? extends RuntimeException> ARGUMENT = IllegalArgumentException.class;
    private static final Class<? extends RuntimeException> STATE = IllegalStateException.class;

    private static final Class<? extends RuntimeException> UNSUPPORTED = UnsupportedOperationException.class;

    public static void main(String[] args) {
        lawsAndPlaces();
        periods();
        openPlay();
        rucks();
        offences();
        toCome();
        cards();
        comeBacks();
        replacements();
        decisions();
        CHECK.end();
    }

    private static void lawsAndPlaces() {
        Scrumward x = Match.in("open");
        CHECK.refuses("2 value, then begun", ARGUMENT, x, () -> x.law('g', 0));
        CHECK.refuses("2 law, then begun", ARGUMENT, x, () -> x.law('z', 1));
        CHECK.refuses("2 begun", STATE, x, () -> x.law('g', 1));
        CHECK.refuses("3 team, then place", BOUNDS, x, () -> x.setPlace(2, 16, 101));
        CHECK.refuses("3 player, then place", BOUNDS, x, () -> x.setPlace(0, 24, -1));
        CHECK.refuses("3 place, then bench", ARGUMENT, x, () -> x.setPlace(0, 16, 101));
        CHECK.refuses("3 place, then the ball", ARGUMENT, x, () -> x.setPlace(0, 8, -1));
        CHECK.refuses("3 the ball", UNSUPPORTED, x, () -> x.setPlace(0, 8, 50));
        Scrumward y = Match.in("ruck");
        CHECK.refuses("3 place, then the ruck", ARGUMENT, y, () -> y.setPlace(1, 7, 101));
        CHECK.refuses("3 the ruck", UNSUPPORTED, y, () -> y.setPlace(1, 7, 50));
    }

    private static void periods() {
        for (String state : new String[] {"over", "k", "open"}) {
            Scrumward x = Match.in(state);
            CHECK.refuses("7 team, then " + state, BOUNDS, x, () -> x.begin(2));
            CHECK.refuses("7 " + state, STATE, x, () -> x.begin(1));
        }
        for (String state : new String[] {"new", "between", "over"}) {
            Scrumward x = Match.in(state);
            CHECK.refuses("8 seconds 0, then " + state, ARGUMENT, x, () -> x.pass(0));
            CHECK.refuses("8 seconds 601, then " + state, ARGUMENT, x, () -> x.pass(601));
            CHECK.refuses("8 " + state, STATE, x, () -> x.pass(600));
            CHECK.refuses("13 thing, then " + state, ARGUMENT, x, () -> x.toCome('s'));
        }
    }

    private static void openPlay() {
        for (String state : new String[] {"new", "between", "over", "p", "ruck", "scrum", "lineout"}) {
            Scrumward x = Match.in(state);
            CHECK.refuses("14 place, then " + state, ARGUMENT, x, () -> x.carry(101));
            CHECK.refuses("15 player, then " + state, BOUNDS, x, () -> x.throwTo(0));
            CHECK.refuses("15 " + state + ", then bench", STATE, x, () -> x.throwTo(23));
            CHECK.refuses("16 player, then " + state, BOUNDS, x, () -> x.lose(24, true));
            CHECK.refuses("16 " + state + ", then bench", STATE, x, () -> x.lose(23, true));
            CHECK.refuses("17 player, then " + state, BOUNDS, x, () -> x.tackle(24));
            CHECK.refuses("17 " + state + ", then bench", STATE, x, () -> x.tackle(23));
            CHECK.refuses("22 place 0, then " + state, ARGUMENT, x, () -> x.kickOut(0, true));
            CHECK.refuses("22 place 100, then " + state, ARGUMENT, x, () -> x.kickOut(100, false));
            CHECK.refuses("23 " + state + ", then no goal", STATE, x, () -> x.ground());
        }
    }

    private static void rucks() {
        for (String state : new String[] {"new", "between", "over", "p", "open"}) {
            Scrumward x = Match.in(state);
            CHECK.refuses("18 team, then " + state, BOUNDS, x, () -> x.join(2, 23));
            CHECK.refuses("18 player, then " + state, BOUNDS, x, () -> x.join(0, 24));
            CHECK.refuses("18 " + state + ", then bench", STATE, x, () -> x.join(0, 23));
            CHECK.refuses("19 team, then " + state, BOUNDS, x, () -> x.win(-1, 23));
            CHECK.refuses("19 player, then " + state, BOUNDS, x, () -> x.win(0, 0));
            CHECK.refuses("19 " + state + ", then bench", STATE, x, () -> x.win(0, 23));
        }
        for (String state : new String[] {"scrum", "lineout"}) {
            Scrumward x = Match.in(state);
            CHECK.refuses("18 player, then " + state, BOUNDS, x, () -> x.join(0, 0));
            CHECK.refuses("18 " + state + ", then bench", STATE, x, () -> x.join(0, 23));
            CHECK.refuses("19 bench, " + state, UNSUPPORTED, x, () -> x.win(0, 23));
        }
    }

    private static void offences() {
        for (String state : new String[] {"new", "over", "p"}) {
            Scrumward x = Match.in(state);
            CHECK.refuses("20 team, then kind, then " + state, BOUNDS, x, () -> x.offend(2, 'z', true));
            CHECK.refuses("20 team, then " + state, BOUNDS, x, () -> x.offend(-1, 'p', false));
            CHECK.refuses("20 kind, then " + state, ARGUMENT, x, () -> x.offend(0, 'z', true));
            CHECK.refuses("20 " + state, STATE, x, () -> x.offend(0, 'p', true));
        }
        Scrumward y = Match.in("scrum");
        CHECK.refuses("20 team, then kind", BOUNDS, y, () -> y.offend(2, 'z', false));
    }

    private static void toCome() {
        for (String state : new String[] {"new", "between", "over", "g", "c", "open", "ruck", "scrum", "lineout"}) {
            Scrumward x = Match.in(state);
            CHECK.refuses("24 player, then " + state, BOUNDS, x, () -> x.restart(0));
            CHECK.refuses("24 " + state + ", then bench", STATE, x, () -> x.restart(23));
        }
        for (String state : new String[] {"new", "over", "k", "s", "open"}) {
            Scrumward x = Match.in(state);
            CHECK.refuses("25 choice, then " + state, ARGUMENT, x, () -> x.choose('k', 50));
            CHECK.refuses("25 place 0, then " + state, ARGUMENT, x, () -> x.choose('t', 0));
            CHECK.refuses("25 place 100, then " + state, ARGUMENT, x, () -> x.choose('t', 100));
            CHECK.refuses("25 " + state, STATE, x, () -> x.choose('g', 50));
        }
        Scrumward y = Match.in("f");
        CHECK.refuses("25 choice, for a free kick", ARGUMENT, y, () -> y.choose('G', 50));
        CHECK.refuses("25 place, for a free kick", ARGUMENT, y, () -> y.choose('t', 100));
        CHECK.refuses("25 a kick at goal for a free kick", UNSUPPORTED, y, () -> y.choose('g', 50));
    }

    private static void cards() {
        for (String state : new String[] {"new", "between", "over", "open", "ruck", "scrum", "lineout"}) {
            Scrumward x = Match.in(state);
            CHECK.refuses("29 team, then kind, then " + state, BOUNDS, x, () -> x.card(2, 23, 'z'));
            CHECK.refuses("29 player, then kind, then " + state, BOUNDS, x, () -> x.card(0, 24, 'z'));
            CHECK.refuses("29 kind, then " + state + ", then bench", ARGUMENT, x, () -> x.card(0, 23, 'z'));
            CHECK.refuses("29 " + state + ", then bench", STATE, x, () -> x.card(0, 23, 'y'));
        }
        Scrumward y = Match.in("k");
        CHECK.refuses("29 kind, then bench", ARGUMENT, y, () -> y.card(0, 23, 'z'));
        CHECK.refuses("29 bench", UNSUPPORTED, y, () -> y.card(0, 23, 'y'));
        CHECK.refuses("30 team", BOUNDS, y, () -> y.decide(2, 1, true));
        CHECK.refuses("30 player", BOUNDS, y, () -> y.decide(0, 24, true));
    }

    private static void comeBacks() {
        for (String state : new String[] {"new", "between", "over", "open", "ruck", "scrum", "lineout"}) {
            Scrumward x = Match.in(state);
            CHECK.refuses("31 team, then " + state, BOUNDS, x, () -> x.comeBack(2, 1));
            CHECK.refuses("31 player, then " + state, BOUNDS, x, () -> x.comeBack(0, 24));
            CHECK.refuses("31 " + state + ", then on the field", STATE, x, () -> x.comeBack(0, 1));
            CHECK.refuses("31 " + state + ", then bench", STATE, x, () -> x.comeBack(0, 23));
        }
    }

    private static void replacements() {
        for (String state : new String[] {"new", "between", "over", "open", "ruck", "scrum", "lineout"}) {
            Scrumward x = Match.in(state);
            CHECK.refuses("32 team, then kind, then " + state, BOUNDS, x, () -> x.replace(2, 1, 16, 'z'));
            CHECK.refuses("32 off, then kind, then " + state, BOUNDS, x, () -> x.replace(0, -1, 16, 'z'));
            CHECK.refuses("32 off, then kind, then " + state, BOUNDS, x, () -> x.replace(0, 24, 16, 'z'));
            CHECK.refuses("32 on, then kind, then " + state, BOUNDS, x, () -> x.replace(0, 1, 24, 'z'));
            CHECK.refuses("32 on 0, then none for b, then " + state, BOUNDS, x, () -> x.replace(0, 0, 0, 'b'));
            CHECK.refuses("32 kind, then " + state, ARGUMENT, x, () -> x.replace(0, 1, 16, 'z'));
            CHECK.refuses("32 none for b, then " + state, ARGUMENT, x, () -> x.replace(0, 0, 16, 'b'));
            CHECK.refuses("32 " + state + ", then none", STATE, x, () -> x.replace(0, 0, 16, 't'));
            CHECK.refuses("32 " + state + ", then bench", STATE, x, () -> x.replace(0, 17, 16, 't'));
        }
        Scrumward y = Match.in("k");
        CHECK.refuses("32 kind, then bench", ARGUMENT, y, () -> y.replace(0, 17, 1, 'z'));
        CHECK.refuses("32 none for i, then on the field", ARGUMENT, y, () -> y.replace(0, 0, 1, 'i'));
        CHECK.refuses("32 bench", UNSUPPORTED, y, () -> y.replace(0, 17, 16, 't'));
    }

    private static void decisions() {
        Scrumward x = new Scrumward();
        CHECK.refuses("36 index, then thing", BOUNDS, x, () -> x.decision(0, 'z'));
        CHECK.refuses("38 team, then not over", BOUNDS, x, () -> x.leaguePoints(2));
        CHECK.refuses("38 not over", STATE, x, () -> x.leaguePoints(1));
        CHECK.refuses("39 team, then no seconds", BOUNDS, x, () -> x.share(-1));
        CHECK.refuses("39 no seconds", ArithmeticException.class, x, () -> x.share(1));
        Scrumward y = Match.in("k");
        CHECK.refuses("36 index, then thing", BOUNDS, y, () -> y.decision(1, 'z'));
        CHECK.refuses("36 thing", ARGUMENT, y, () -> y.decision(0, 'z'));
    }
}
