import java.util.Arrays;
import java.util.NoSuchElementException;

/** Every call in every state that a match can be in: where it works, and where it is refused and changes nothing. */
public final class StatesTest {
    private static final Check CHECK = new Check("StatesTest");
    private static final Class<? extends RuntimeException> STATE = IllegalStateException.class;
    private static final Class<? extends RuntimeException> UNSUPPORTED = UnsupportedOperationException.class;
    private static final Class<? extends RuntimeException> ELEMENT = NoSuchElementException.class;
    private static final String ALL = String.join(" ", Match.STATES);
    private static final String TO_COME = "k d s l p f g c";
    private static final String GOES_ON = "open ruck scrum lineout";

    private interface Use {
        void run(Scrumward x);
    }

    public static void main(String[] args) {
        states();
        periodCalls();
        openPlayCalls();
        ruckAndOffenceCalls();
        blowCalls();
        toComeCalls();
        cardCalls();
        otherCalls();
        queriesChangeNothing();
        CHECK.end();
    }

    private static boolean isOneOf(String state, String states) {
        return Arrays.asList(states.split(" ")).contains(state);
    }

    /** The call works in the states that are told, and is refused by the exception in all the other ones. */
    private static void worksIn(String what, String states, Class<? extends RuntimeException> want, Use use) {
        for (String state : Match.STATES) {
            Scrumward x = Match.in(state);
            String name = what + " in " + state;
            if (isOneOf(state, states)) {
                CHECK.works(name, () -> use.run(x));
            } else {
                CHECK.refuses(name, want, x, () -> use.run(x));
            }
        }
    }

    /** The call is refused in each of the states that are told. */
    private static void refusedIn(String what, String states, Class<? extends RuntimeException> want, Use use) {
        for (String state : states.split(" ")) {
            Scrumward x = Match.in(state);
            CHECK.refuses(what + " in " + state, want, x, () -> use.run(x));
        }
    }

    private static void states() {
        for (String state : Match.STATES) {
            Scrumward x = Match.in(state);
            boolean isToCome = isOneOf(state, TO_COME);
            boolean goesOn = isOneOf(state, GOES_ON);
            CHECK.due("10 period, " + state, x.period(), isToCome || goesOn ? 0 : -1);
            CHECK.due("11 isOver, " + state, x.isOver(), state.equals("over"));
            CHECK.due("12 play, " + state, x.play(), goesOn ? state.charAt(0) : 'x');
            CHECK.due("42 isConsistent, " + state, x.isConsistent(), true);
            if (isToCome) {
                CHECK.due("13 kind, " + state, x.toCome('k'), state.charAt(0));
                CHECK.due("13 team, " + state, x.toCome('t'), 0);
            }
        }
    }

    private static void periodCalls() {
        worksIn("2 law", "new", STATE, x -> x.law('g', 20));
        worksIn("7 begin", "new between", STATE, x -> x.begin(0));
        worksIn("8 pass", TO_COME + " " + GOES_ON, STATE, x -> x.pass(1));
        for (char what : new char[] {'k', 't', 'p'}) {
            worksIn("13 toCome " + what, TO_COME, ELEMENT, x -> x.toCome(what));
        }
    }

    private static void openPlayCalls() {
        worksIn("14 carry", "open", STATE, x -> x.carry(50));
        worksIn("15 throwTo", "open", STATE, x -> x.throwTo(9));
        worksIn("16 lose", "open", STATE, x -> x.lose(9, false));
        worksIn("16 lose, knocked on", "open", STATE, x -> x.lose(9, true));
        worksIn("17 tackle", "open", STATE, x -> x.tackle(9));
        worksIn("22 kickOut", "open", STATE, x -> x.kickOut(60, false));
        worksIn("23 ground", "open", STATE, x -> x.ground());
    }

    private static void ruckAndOffenceCalls() {
        worksIn("18 join", "ruck", STATE, x -> x.join(0, 9));
        worksIn("19 win", "ruck scrum lineout", STATE, x -> x.win(1, 9));
        worksIn("20 offend", GOES_ON, STATE, x -> x.offend(0, 'p', true));
        worksIn("20 offend, not seen", GOES_ON, STATE, x -> x.offend(0, 's', false));
        worksIn("27 reset", "scrum", STATE, x -> x.reset());
    }

    private static void blowCalls() {
        worksIn("21 blow, no advantage", "", STATE, x -> x.blow());
        for (String state : GOES_ON.split(" ")) {
            Scrumward x = Match.in(state);
            x.offend(1, 'p', false);
            CHECK.refuses("21 blow, one that was not seen, " + state, STATE, x, () -> x.blow());
            x.offend(1, 'p', true);
            CHECK.due("21 blow, one that was seen, " + state, x.blow(), 'p');
            CHECK.refuses("21 blow, stopped by it, " + state, STATE, x, () -> x.blow());
        }
    }

    private static void toComeCalls() {
        worksIn("24 restart", "k d s l p f", STATE, x -> x.restart(8));
        worksIn("25 choose s", "p f", STATE, x -> x.choose('s', 0));
        worksIn("25 choose t", "p f", STATE, x -> x.choose('t', 50));
        refusedIn("25 choose g", "new between over k d s l g c " + GOES_ON, STATE, x -> x.choose('g', 0));
        refusedIn("25 choose g", "f", UNSUPPORTED, x -> x.choose('g', 0));
        CHECK.due("25 choose g in p", Match.in("p").choose('g', 0), 'g');
        worksIn("26 kick good", "g c", STATE, x -> x.kick(true));
        worksIn("26 kick missed", "g c", STATE, x -> x.kick(false));
        worksIn("28 review", "c", STATE, x -> x.review());
    }

    private static void cardCalls() {
        for (char kind : new char[] {'y', 'r', 'b'}) {
            worksIn("29 card " + kind, TO_COME, STATE, x -> x.card(1, 9, kind));
        }
        for (char kind : new char[] {'t', 'i', 'b', 'h'}) {
            worksIn("32 replace " + kind, TO_COME, STATE, x -> x.replace(1, 9, 21, kind));
        }
        refusedIn("31 comeBack", "new between over " + GOES_ON, STATE, x -> x.comeBack(0, 9));
        refusedIn("31 comeBack of one on the field", TO_COME, UNSUPPORTED, x -> x.comeBack(0, 9));
        refusedIn("30 decide of one on the field", ALL, UNSUPPORTED, x -> x.decide(0, 9, true));
        comeBackAndDecide();
    }

    private static void comeBackAndDecide() {
        Scrumward x = Match.stopped(0);
        x.replace(0, 9, 21, 'b');
        x.card(0, 1, 'b');
        x.card(0, 2, 'b');
        x.restart(8);
        CHECK.refuses("31 comeBack while play goes on", STATE, x, () -> x.comeBack(0, 9));
        CHECK.due("30 decide while play goes on", x.decide(0, 1, true), true);
        x.pass(600);
        x.kickOut(50, true);
        CHECK.due("31 comeBack when stopped", x.comeBack(0, 9), 13);
        Match.passAll(startedAgain(x), 1800);
        x.kickOut(50, true);
        CHECK.due("10 ended", x.period(), -1);
        CHECK.due("30 decide when no period is on", x.decide(0, 2, false), false);
        CHECK.refuses("31 comeBack when no period is on", STATE, x, () -> x.comeBack(0, 2));
        x.begin(0);
        CHECK.due("31 comeBack then", x.comeBack(0, 2), 14);
    }

    private static Scrumward startedAgain(Scrumward x) {
        x.restart(1);
        x.win(0, 11);
        return x;
    }

    private static void otherCalls() {
        worksIn("3 setPlace", ALL, STATE, x -> x.setPlace(0, 9, 5));
        worksIn("4 placeOf", ALL, STATE, x -> x.placeOf(0, 9));
        worksIn("5 isOffside", ALL, STATE, x -> x.isOffside(0, 9));
        refusedIn("3 setPlace of one on the bench", ALL, UNSUPPORTED, x -> x.setPlace(0, 23, 5));
        refusedIn("4 placeOf one on the bench", ALL, ELEMENT, x -> x.placeOf(0, 23));
        refusedIn("5 isOffside of one on the bench", ALL, UNSUPPORTED, x -> x.isOffside(0, 23));
        worksIn("38 leaguePoints", "over", STATE, x -> x.leaguePoints(0));
        worksIn("39 share", "between over", ArithmeticException.class, x -> x.share(0));
        worksIn("41 meanPhases", "between over d s l p f g c scrum lineout", ArithmeticException.class,
                x -> x.meanPhases());
    }

    private static void queriesChangeNothing() {
        for (String state : Match.STATES) {
            Scrumward x = Match.in(state);
            String before = State.of(x);
            Match.view(x);
            x.clock();
            CHECK.dueText("queries change nothing, " + state, State.of(x), before);
        }
    }
}
