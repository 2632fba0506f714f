import java.util.ArrayList;
import java.util.NoSuchElementException;
import java.util.Random;

/** All promises: long runs of chance calls, the same ones each time. */
public final class RandomRunsTest {
    private static final Check CHECK = new Check("RandomRunsTest");
    private static final int RUNS = 1500;
    private static final int CALLS = 512;
    private static final String[] NAMES = {"law", "setPlace", "isOffside", "begin", "pass", "toCome", "carry", "throwTo",
        "lose", "tackle", "join", "win", "offend", "blow", "kickOut", "ground", "restart", "choose", "kick", "reset",
        "review", "card", "decide", "comeBack", "replace", "placeOf", "decision", "leaguePoints", "share", "meanPhases"};

    private static final Class<?> BOUNDS = IndexOutOfBoundsException.class;
    private static final Class<?> ARGUMENT = IllegalArgumentException.class;
    private static final Class<?> STATE = IllegalStateException.class;
    private static final Class<?> UNSUPPORTED = UnsupportedOperationException.class;
    private static final Class<?> ELEMENT = NoSuchElementException.class;
    private static final Class<?> ARITHMETIC = ArithmeticException.class;

    /** What each call of NAMES may throw. */
    private static final Class<?>[][] TOLD = {{ARGUMENT, STATE}, {BOUNDS, ARGUMENT, UNSUPPORTED}, {BOUNDS, UNSUPPORTED},
        {BOUNDS, STATE}, {ARGUMENT, STATE}, {ARGUMENT, ELEMENT}, {ARGUMENT, STATE}, {BOUNDS, STATE, UNSUPPORTED},
        {BOUNDS, STATE, UNSUPPORTED}, {BOUNDS, STATE, UNSUPPORTED}, {BOUNDS, STATE, UNSUPPORTED},
        {BOUNDS, STATE, UNSUPPORTED}, {BOUNDS, ARGUMENT, STATE}, {STATE}, {ARGUMENT, STATE}, {STATE, UNSUPPORTED},
        {BOUNDS, STATE, UNSUPPORTED}, {ARGUMENT, STATE, UNSUPPORTED}, {STATE}, {STATE}, {STATE},
        {BOUNDS, ARGUMENT, STATE, UNSUPPORTED}, {BOUNDS, UNSUPPORTED}, {BOUNDS, STATE, UNSUPPORTED},
        {BOUNDS, ARGUMENT, STATE, UNSUPPORTED}, {BOUNDS, ELEMENT}, {BOUNDS, ARGUMENT}, {BOUNDS, STATE},
        {BOUNDS, ARITHMETIC}, {ARITHMETIC}};

    public static void main(String[] args) {
        long answered = 0;
        for (int run = 0; run < RUNS; run++) {
            answered += oneRun(run);
        }
        CHECK.due("calls were answered", answered > RUNS * 100L, true);
        longRun();
        CHECK.end();
    }

    /** Makes a run of calls, and the same run without those that throw: both must come to the same. */
    private static int oneRun(int run) {
        Random random = new Random(run);
        boolean isWild = run % 3 == 0;
        Scrumward x = new Scrumward();
        ArrayList<int[]> answered = new ArrayList<int[]>();
        for (int i = 0; i < CALLS; i++) {
            int[] call = draw(random, isWild, x);
            String thrown = make(x, call);
            if (thrown == null) {
                answered.add(call);
                look(x, run, i);
            } else if (!isTold(call[0], thrown)) {
                CHECK.dueText("run " + run + " call " + i + " " + NAMES[call[0]], thrown, "as told");
            }
        }
        Scrumward y = new Scrumward();
        for (int[] call : answered) {
            make(y, call);
        }
        CHECK.dueText("run " + run + " without the calls that throw", Match.view(x), Match.view(y));
        return answered.size();
    }

    private static boolean isTold(int name, String thrown) {
        for (Class<?> told : TOLD[name]) {
            if (told.getName().equals(thrown)) {
                return true;
            }
        }
        return false;
    }

    private static void look(Scrumward x, int run, int call) {
        boolean isRight = x.isConsistent();
        for (int team = 0; team < 2; team++) {
            int points = 0;
            for (int i = 0; i < x.decisions(); i++) {
                points += x.decision(i, 't') == team ? worth((char) x.decision(i, 'k')) : 0;
            }
            isRight &= points == x.points(team) && x.onField(team) <= x.allowed(team);
        }
        isRight &= x.period() < 4 && x.clock() <= x.secondsOfPlay();
        if (!isRight) {
            CHECK.due("run " + run + " call " + call + " consistent", isRight, true);
        }
    }

    private static int worth(char kind) {
        switch (kind) {
            case 't':
                return 5;
            case 'n':
                return -5;
            case 'C':
                return 2;
            case 'G':
                return 3;
            default:
                return 0;
        }
    }

    /** A call as numbers: which, two or three numbers, a kind and a truth. */
    private static int[] draw(Random random, boolean isWild, Scrumward x) {
        int name = random.nextInt(NAMES.length);
        if (x.period() < 0 && random.nextInt(3) == 0) {
            name = 3;
        } else if (x.play() == 'x' && random.nextInt(3) == 0) {
            name = 16;
        }
        int team = isWild ? random.nextInt(5) - 2 : random.nextInt(2);
        int player = isWild ? random.nextInt(28) - 2 : 1 + random.nextInt(23);
        int number = isWild && random.nextInt(9) == 0 ? random.nextInt() : random.nextInt(3) == 0 ? 100 * random.nextInt(2)
            : random.nextInt(isWild ? 3000 : 100);
        int other = random.nextInt(4) == 0 ? 0 : isWild ? random.nextInt(28) - 2 : 1 + random.nextInt(15);
        return new int[] {name, team, player, number, other, random.nextInt(), random.nextInt(2)};
    }

    private static char pick(String kinds, int[] call) {
        return kinds.charAt(Math.floorMod(call[5], kinds.length()));
    }

    /** Makes a call, and answers what it threw, or null. */
    private static String make(Scrumward x, int[] call) {
        try {
            if (call[0] < 13) {
                makeFirst(x, call);
            } else {
                makeSecond(x, call);
            }
            return null;
        } catch (RuntimeException e) {
            return Check.nameOf(e);
        }
    }

    private static void makeFirst(Scrumward x, int[] c) {
        boolean truth = c[6] == 1;
        switch (c[0]) {
            case 0: x.law(pick("ghabyroz", c), c[3]); break;
            case 1: x.setPlace(c[1], c[2], c[3]); break;
            case 2: x.isOffside(c[1], c[2]); break;
            case 3: x.begin(c[1]); break;
            case 4: x.pass(c[3] * 3); break;
            case 5: x.toCome(pick("ktpz", c)); break;
            case 6: x.carry(c[3]); break;
            case 7: x.throwTo(c[2]); break;
            case 8: x.lose(c[2], truth); break;
            case 9: x.tackle(c[2]); break;
            case 10: x.join(c[1], c[2]); break;
            case 11: x.win(c[1], c[2]); break;
            default: x.offend(c[1], pick("pfsz", c), truth); break;
        }
    }

    private static void makeSecond(Scrumward x, int[] c) {
        boolean truth = c[6] == 1;
        switch (c[0]) {
            case 13: x.blow(); break;
            case 14: x.kickOut(c[3], truth); break;
            case 15: x.ground(); break;
            case 16: x.restart(c[2]); break;
            case 17: x.choose(pick("gstz", c), c[3]); break;
            case 18: x.kick(truth); break;
            case 19: x.reset(); break;
            case 20: x.review(); break;
            case 21: x.card(c[1], c[2], pick("yyrbz", c)); break;
            case 22: x.decide(c[1], c[2], truth); break;
            case 23: x.comeBack(c[1], c[2]); break;
            case 24: x.replace(c[1], c[4], c[2], pick("tibhz", c)); break;
            case 25: x.placeOf(c[1], c[2]); break;
            case 26: x.decision(c[3] % 20, pick("ktpsz", c)); break;
            case 27: x.leaguePoints(c[1]); break;
            case 28: x.share(c[1]); break;
            default: x.meanPhases(); break;
        }
    }

    /** Beyond its 512 calls an object may answer what it likes, but the machine must not throw. */
    private static void longRun() {
        Random random = new Random(99);
        Scrumward x = new Scrumward();
        for (int i = 0; i < 40000; i++) {
            int[] call = draw(random, false, x);
            String thrown = make(x, call);
            if (thrown != null && !isTold(call[0], thrown)) {
                CHECK.dueText("long run, call " + i + " " + NAMES[call[0]], thrown, "as told");
            }
        }
        Scrumward y = Match.open(0, 50);
        for (int i = 0; i < 5000; i++) {
            y.offend(i % 2, 'p', i % 3 == 0);
        }
        CHECK.due("many offences", y.blow(), 'p');
    }
}
