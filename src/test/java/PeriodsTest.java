import java.util.NoSuchElementException;

/** Promises 7 to 13: periods, seconds and what is to come. */
public final class PeriodsTest {
    private static final Check CHECK = new Check("PeriodsTest");

    public static void main(String[] args) {
        begin();
        pass();
        ends();
        withoutEnd();
        overtime();
        winners();
        suddenEnds();
        play();
        toCome();
        CHECK.end();
    }

    private static void begin() {
        Scrumward x = new Scrumward();
        for (int team : new int[] {-1, 2, Integer.MAX_VALUE}) {
            CHECK.fails("7 team", IndexOutOfBoundsException.class, () -> x.begin(team));
        }
        CHECK.due("7 first", x.begin(1), 0);
        CHECK.due("7 kind", x.toCome('k'), 'k');
        CHECK.due("7 team", x.toCome('t'), 1);
        CHECK.due("7 place", x.toCome('p'), 50);
        CHECK.due("10 period", x.period(), 0);
        CHECK.fails("7 on", IllegalStateException.class, () -> x.begin(1));
        CHECK.fails("7 first the team", IndexOutOfBoundsException.class, () -> x.begin(2));
        Match.playAndStop(x, 2400);
        CHECK.due("7 second", x.begin(0), 1);
        CHECK.due("9 begins anew", x.clock(), 0);
        CHECK.due("40 goes on", x.secondsOfPlay(), 2400);
        CHECK.due("7 team of the second", x.toCome('t'), 0);
    }

    private static void pass() {
        Scrumward x = new Scrumward();
        CHECK.fails("8 no period", IllegalStateException.class, () -> x.pass(1));
        for (int seconds : new int[] {-1, 0, 601, Integer.MIN_VALUE, Integer.MAX_VALUE}) {
            CHECK.fails("8 seconds", IllegalArgumentException.class, () -> x.pass(seconds));
        }
        x.begin(0);
        CHECK.due("8 stands while stopped", x.pass(600), 0);
        x.restart(8);
        CHECK.due("8 open", x.pass(1), 1);
        CHECK.due("8 most", x.pass(600), 601);
        CHECK.due("9 clock", x.clock(), 601);
        x.setPlace(0, 7, 60);
        x.tackle(7);
        CHECK.due("8 a ruck", x.pass(9), 610);
        x.win(0, 9);
        x.kickOut(30, true);
        CHECK.due("8 stopped", x.pass(50), 610);
        x.restart(1);
        CHECK.due("8 a lineout", x.pass(5), 615);
        x.offend(0, 's', true);
        x.blow();
        x.restart(1);
        CHECK.due("8 a scrum", x.pass(5), 620);
    }

    private static void ends() {
        Scrumward x = Match.open(0, 50);
        Match.passAll(x, 2399);
        CHECK.due("8 one second left", x.kickOut(60, true), 'l');
        CHECK.due("10 on", x.period(), 0);
        x.restart(1);
        CHECK.due("8 at its end it goes on", x.pass(1), 2400);
        CHECK.due("10 on while play goes on", x.period(), 0);
        CHECK.due("8 beyond its end", x.pass(600), 3000);
        x.win(0, 11);
        CHECK.due("22 ends", x.kickOut(60, true), 'e');
        CHECK.due("10 no period", x.period(), -1);
        CHECK.due("9 the last clock", x.clock(), 3000);
        CHECK.due("12 no period", x.play(), 'x');
        CHECK.due("11 a second one follows", x.isOver(), false);
        CHECK.fails("13 nothing", NoSuchElementException.class, () -> x.toCome('k'));
        CHECK.fails("8 ended", IllegalStateException.class, () -> x.pass(1));
        CHECK.fails("24 ended", IllegalStateException.class, () -> x.restart(1));
    }

    /** At the end of its seconds a period goes on while a penalty, free kick, kick or conversion is to come. */
    private static void withoutEnd() {
        Scrumward x = Match.open(0, 50);
        Match.passAll(x, 2400);
        x.offend(1, 'f', true);
        CHECK.due("21 a free kick", x.blow(), 'f');
        CHECK.due("10 free kick", x.period(), 0);
        x.restart(9);
        x.offend(1, 'p', true);
        CHECK.due("21 a penalty", x.blow(), 'p');
        CHECK.due("25 a kick at goal", x.choose('g', 0), 'g');
        CHECK.due("10 kick at goal", x.period(), 0);
        x.pass(61);
        CHECK.due("8 a drop-out ends it", x.period(), -1);
        Scrumward y = Match.open(0, 100);
        Match.passAll(y, 2400);
        CHECK.due("23 a conversion", y.ground(), 'c');
        CHECK.due("10 conversion", y.period(), 0);
        CHECK.due("26 conversion", y.kick(true), 7);
        CHECK.due("26 a kick-off ends it", y.period(), -1);
        Scrumward z = Match.open(0, 50);
        Match.passAll(z, 2400);
        z.offend(1, 's', true);
        CHECK.due("21 a scrum ends it", z.blow(), 'e');
        Scrumward v = Match.open(0, 50);
        Match.passAll(v, 2400);
        v.offend(1, 'p', true);
        v.blow();
        CHECK.due("25 a chosen scrum ends it", v.choose('s', 0), 'e');
        Scrumward w = Match.open(0, 50);
        Match.passAll(w, 2400);
        w.offend(1, 'p', true);
        w.blow();
        CHECK.due("25 a chosen lineout ends it", w.choose('t', 40), 'e');
    }

    private static void overtime() {
        Scrumward x = new Scrumward();
        x.law('o', 1);
        for (int number = 0; number < 4; number++) {
            CHECK.due("7 number", x.begin(0), number);
            CHECK.due("11 on", x.isOver(), false);
            x.restart(11);
            Match.passAll(x, (number < 2 ? 2400 : 600) - 1);
            CHECK.due("22 a second left", x.kickOut(50, true), 'l');
            x.restart(1);
            x.win(0, 11);
            x.pass(1);
            CHECK.due("22 ends", x.kickOut(50, true), 'e');
            CHECK.due("11 over", x.isOver(), number == 3);
        }
        CHECK.fails("7 over", IllegalStateException.class, () -> x.begin(0));
        CHECK.due("38 a draw", x.leaguePoints(0), 2);
        CHECK.due("40 seconds", x.secondsOfPlay(), 6000);
        Scrumward y = new Scrumward();
        endPeriod(y);
        endPeriod(y);
        CHECK.due("11 need not have a winner", y.isOver(), true);
        CHECK.fails("7 no third one", IllegalStateException.class, () -> y.begin(0));
        CHECK.fails("8 over", IllegalStateException.class, () -> y.pass(1));
    }

    private static void endPeriod(Scrumward x) {
        x.begin(0);
        Match.playAndStop(x, 2400);
    }

    private static void winners() {
        Scrumward x = new Scrumward();
        x.law('o', 1);
        Match.openOf(x, 0, 100);
        x.ground();
        x.kick(false);
        Match.playAndStop(x, 2400);
        CHECK.due("11 a second period all the same", x.isOver(), false);
        endPeriod(x);
        CHECK.due("11 a winner", x.isOver(), true);
        Scrumward y = new Scrumward();
        y.law('o', 1);
        endPeriod(y);
        endPeriod(y);
        Match.openOf(y, 1, 0);
        CHECK.due("23 third period", y.ground(), 'c');
        CHECK.due("26 third period", y.kick(true), 7);
        CHECK.due("10 a score does not end the third", y.period(), 2);
        Match.playAndStop(y, 600);
        CHECK.due("11 a winner of the third", y.isOver(), true);
        CHECK.fails("7 no fourth one", IllegalStateException.class, () -> y.begin(0));
    }

    private static Scrumward fourth() {
        Scrumward x = new Scrumward();
        x.law('o', 1);
        for (int number = 0; number < 3; number++) {
            endPeriod(x);
        }
        return x;
    }

    private static void suddenEnds() {
        Scrumward x = Match.openOf(fourth(), 0, 100);
        CHECK.due("23 ends at once", x.ground(), 'e');
        CHECK.due("11 ends at once", x.isOver(), true);
        CHECK.due("37 the try", x.points(0), 5);
        CHECK.due("36 last", x.decision(x.decisions() - 1, 'k'), 'e');
        CHECK.due("36 last but one", x.decision(x.decisions() - 2, 'k'), 't');
        Scrumward y = Match.openOf(fourth(), 1, 30);
        y.offend(0, 'p', true);
        y.blow();
        y.choose('g', 0);
        CHECK.due("26 ends at once", y.kick(true), 3);
        CHECK.due("11 kick at goal", y.isOver(), true);
        CHECK.due("36 the end", y.decision(y.decisions() - 1, 'k'), 'e');
        CHECK.due("36 the kick", y.decision(y.decisions() - 2, 'k'), 'G');
        CHECK.fails("13 nothing", NoSuchElementException.class, () -> y.toCome('k'));
        Scrumward z = Match.openOf(fourth(), 1, 30);
        z.offend(0, 'p', true);
        z.blow();
        z.choose('g', 0);
        CHECK.due("26 missed", z.kick(false), 0);
        CHECK.due("10 goes on", z.period(), 3);
    }

    private static void play() {
        CHECK.due("12 new", new Scrumward().play(), 'x');
        CHECK.due("12 stopped", Match.stopped(0).play(), 'x');
        CHECK.due("12 open", Match.open(0, 50).play(), 'o');
        CHECK.due("12 ruck", Match.ruck(0, 50).play(), 'r');
        CHECK.due("12 scrum", Match.scrum(0, 50).play(), 's');
        Scrumward x = Match.open(0, 50);
        x.kickOut(50, true);
        x.restart(1);
        CHECK.due("12 lineout", x.play(), 'l');
    }

    private static void toCome() {
        Scrumward x = new Scrumward();
        CHECK.fails("13 thing", IllegalArgumentException.class, () -> x.toCome('x'));
        for (char what : new char[] {'k', 't', 'p'}) {
            CHECK.fails("13 nothing", NoSuchElementException.class, () -> x.toCome(what));
        }
        x.begin(0);
        CHECK.fails("13 thing of it", IllegalArgumentException.class, () -> x.toCome('K'));
        x.restart(8);
        CHECK.fails("13 play goes on", NoSuchElementException.class, () -> x.toCome('p'));
        Scrumward y = Match.given(1, 'p', 33);
        CHECK.due("13 kind", y.toCome('k'), 'p');
        CHECK.due("13 team", y.toCome('t'), 1);
        CHECK.due("13 place", y.toCome('p'), 33);
        y.choose('s', 0);
        y.restart(1);
        CHECK.fails("13 a scrum goes on", NoSuchElementException.class, () -> y.toCome('k'));
    }
}
