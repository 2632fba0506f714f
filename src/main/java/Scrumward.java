import java.util.ArrayList;
import java.util.NoSuchElementException;

/** A match of two packs, with what a referee must hold. */
public final class Scrumward {
    private static final int FAR_END = 100;
    private static final int HALFWAY = 50;
    private static final int DROP_OUT_DISTANCE = 22;
    private static final int NUMBERS = 23;
    private static final int STARTERS = 15;
    private static final int MOST_REPLACEMENTS = 8;
    private static final int LONG_DECISION = 480;
    private static final int RESETS_TO_FREE_KICK = 3;
    private static final int LAST_NUMBER = 3;
    private static final int NO_NUMBER = -1;

    // Each call makes at most so many of these, and an object is used for 512 calls.
    private static final int MOST_DECISIONS = 3 * 512;
    private static final int MOST_OFFENCES = 2 * 512;

    private static final char NOTHING = 0;
    private static final char OPEN = 'o';
    private static final char RUCK = 'r';
    private static final char STOPPED = 'x';
    private static final char SCRUM = 's';
    private static final char LINEOUT = 'l';
    private static final char KICK_OFF = 'k';
    private static final char DROP_OUT = 'd';
    private static final char PENALTY = 'p';
    private static final char FREE_KICK = 'f';
    private static final char GOAL_KICK = 'g';
    private static final char CONVERSION = 'c';
    private static final char TRY_MADE = 't';
    private static final char TRY_UNDONE = 'n';
    private static final char GOAL_GOOD = 'G';
    private static final char CONVERSION_GOOD = 'C';
    private static final char KICK_MISSED = 'm';
    private static final char PERIOD_END = 'e';
    private static final char YELLOW = 'y';
    private static final char RED = 'r';
    private static final char UNDECIDED = 'b';

    private final Laws laws = new Laws();
    private final Squad home = new Squad(40);
    private final Squad away = new Squad(60);
    private final Times times = new Times();
    private final Ball ball = new Ball();
    private final Coming coming = new Coming();
    private final ArrayList<Decision> list = new ArrayList<Decision>();
    private final ArrayList<Offence> advantages = new ArrayList<Offence>();
    private final ArrayList<Offence> unseen = new ArrayList<Offence>();
    private int phases;
    private int allPhases;
    private int stops;
    private int resets;
    private int tryPhases;
    private boolean isTryLookedAt;

    public Scrumward() {
    }

    // ---- laws and players

    public int law(char which, int value) throws IllegalArgumentException, IllegalStateException {
        if (value < Laws.leastOf(which) || value > Laws.mostOf(which)) {
            throw new IllegalArgumentException("no such law, or its value is out of range");
        }
        if (times.number != NO_NUMBER) {
            throw new IllegalStateException("a period has begun");
        }
        int before = laws.read(which);
        laws.write(which, value);
        return before;
    }

    public int setPlace(int team, int player, int place)
            throws IndexOutOfBoundsException, IllegalArgumentException, UnsupportedOperationException {
        Player one = find(team, player);
        requirePlace(place, 0, FAR_END);
        if (!one.isOn() || one.isInRuck || ball.carrier == one) {
            throw new UnsupportedOperationException("the player cannot be moved");
        }
        int before = one.place;
        one.place = place;
        return before;
    }

    public int placeOf(int team, int player) throws IndexOutOfBoundsException, NoSuchElementException {
        Player one = find(team, player);
        if (!one.isOn()) {
            throw new NoSuchElementException("the player is not on the field");
        }
        return one.place;
    }

    public boolean isOffside(int team, int player) throws IndexOutOfBoundsException, UnsupportedOperationException {
        Player one = find(team, player);
        requireOn(one);
        return isAheadOfLine(team, one);
    }

    public boolean isContested() {
        return home.hasFrontRow() && away.hasFrontRow();
    }

    // ---- periods and seconds

    public int begin(int team) throws IndexOutOfBoundsException, IllegalStateException {
        requireTeam(team);
        if (times.isOn || !isPeriodToFollow()) {
            throw new IllegalStateException("a period is on, or the match is over");
        }
        times.startNext();
        come(KICK_OFF, team, HALFWAY);
        return times.number;
    }

    public int pass(int seconds) throws IllegalArgumentException, IllegalStateException {
        if (seconds < 1 || seconds > 600) {
            throw new IllegalArgumentException("the number of seconds is out of range");
        }
        if (!times.isOn) {
            throw new IllegalStateException("no period is on");
        }
        if (ball.play == STOPPED) {
            waitForKick(seconds);
        } else {
            playFor(seconds);
        }
        return times.periodSeconds;
    }

    public int clock() {
        return times.periodSeconds;
    }

    public int period() {
        return times.isOn ? times.number : NO_NUMBER;
    }

    public boolean isOver() {
        return !times.isOn && !isPeriodToFollow();
    }

    public char play() {
        return ball.play;
    }

    public int toCome(char what) throws IllegalArgumentException, NoSuchElementException {
        if (what != 'k' && what != 't' && what != 'p') {
            throw new IllegalArgumentException("there is no such thing of what is to come");
        }
        if (coming.kind == NOTHING) {
            throw new NoSuchElementException("nothing is to come");
        }
        if (what == 'k') {
            return coming.kind;
        }
        return what == 't' ? coming.team : coming.place;
    }

    // ---- open play and rucks

    public int carry(int place) throws IllegalArgumentException, IllegalStateException {
        requirePlace(place, 0, FAR_END);
        requireOpen();
        ball.moveTo(place);
        closeAdvantages();
        return advantages.size();
    }

    public boolean throwTo(int player)
            throws IndexOutOfBoundsException, IllegalStateException, UnsupportedOperationException {
        requireNumber(player);
        requireOpen();
        int team = ball.team;
        Player other = squad(team).player(player);
        if (!other.isOn() || ball.carrier == other) {
            throw new UnsupportedOperationException("the player cannot get the ball");
        }
        boolean isForward = aheadBy(team, ball.place, other.place) > 0;
        if (isForward) {
            openAdvantage(team, SCRUM);
        }
        ball.giveTo(team, other);
        closeAdvantages();
        return isForward;
    }

    public boolean lose(int player, boolean knockedOn)
            throws IndexOutOfBoundsException, IllegalStateException, UnsupportedOperationException {
        Player one = findOpponent(player);
        int loser = ball.team;
        int winner = otherTeam(loser);
        boolean isAhead = isAheadOfLine(winner, one);
        if (knockedOn) {
            openAdvantage(loser, SCRUM);
        }
        ball.giveTo(winner, one);
        if (isAhead) {
            openAdvantage(winner, PENALTY);
        }
        closeAdvantages();
        return isAhead;
    }

    public boolean tackle(int player)
            throws IndexOutOfBoundsException, IllegalStateException, UnsupportedOperationException {
        Player one = findOpponent(player);
        int team = otherTeam(ball.team);
        boolean isAhead = isAheadOfLine(team, one);
        if (isAhead) {
            openAdvantage(team, PENALTY);
        }
        ball.layInRuckWith(one);
        return isAhead;
    }

    public boolean join(int team, int player)
            throws IndexOutOfBoundsException, IllegalStateException, UnsupportedOperationException {
        Player one = find(team, player);
        if (ball.play != RUCK) {
            throw new IllegalStateException("there is no ruck");
        }
        requireOnOutsideRuck(one);
        boolean isAhead = isAheadOfLine(team, one);
        if (isAhead) {
            openAdvantage(team, PENALTY);
        }
        one.isInRuck = true;
        return isAhead;
    }

    public int win(int team, int player)
            throws IndexOutOfBoundsException, IllegalStateException, UnsupportedOperationException {
        Player one = find(team, player);
        if (ball.play == OPEN || ball.play == STOPPED) {
            throw new IllegalStateException("there is no ruck, scrum or lineout");
        }
        requireOnOutsideRuck(one);
        leaveRuck();
        one.place = ball.place;
        ball.play = OPEN;
        ball.giveTo(team, one);
        phases++;
        allPhases++;
        closeAdvantages();
        return phases;
    }

    public int offend(int team, char kind, boolean isSeen)
            throws IndexOutOfBoundsException, IllegalArgumentException, IllegalStateException {
        requireTeam(team);
        if (kind != PENALTY && kind != FREE_KICK && kind != SCRUM) {
            throw new IllegalArgumentException("there is no such kind of offence");
        }
        if (ball.play == STOPPED) {
            throw new IllegalStateException("play does not go on");
        }
        if (isSeen) {
            openAdvantage(team, kind);
        } else {
            keepOffence(unseen, team, kind);
        }
        return advantages.size();
    }

    public char blow() throws IllegalStateException {
        if (ball.play == STOPPED || advantages.isEmpty()) {
            throw new IllegalStateException("play does not go on, or no advantage is open");
        }
        return bringBackTo(advantages.get(0));
    }

    public char kickOut(int place, boolean bounced) throws IllegalArgumentException, IllegalStateException {
        requirePlace(place, 1, FAR_END - 1);
        requireOpen();
        int team = ball.team;
        int distance = fromOwnGoal(team, ball.place);
        boolean isWhereItWentOut = bounced || distance <= 22;
        boolean isForOwnTeam = bounced && distance < 50 && fromOwnGoal(otherTeam(team), place) <= 22;
        return stopFor(LINEOUT, isForOwnTeam ? team : otherTeam(team), isWhereItWentOut ? place : ball.place);
    }

    public char ground() throws IllegalStateException, UnsupportedOperationException {
        requireOpen();
        int team = ball.team;
        int distance = fromOwnGoal(team, ball.place);
        if (distance > 0 && distance < FAR_END) {
            throw new UnsupportedOperationException("the ball is at no goal");
        }
        if (distance == 0) {
            return stopFor(DROP_OUT, team, dropOutPlace(team));
        }
        Offence offence = oldestAdvantageFor(otherTeam(team));
        return offence == null ? scoreTry() : bringBackTo(offence);
    }

    // ---- what is to come

    public boolean restart(int player)
            throws IndexOutOfBoundsException, IllegalStateException, UnsupportedOperationException {
        requireNumber(player);
        char kind = coming.kind;
        if (kind == NOTHING || coming.isKick()) {
            throw new IllegalStateException("there is nothing to restart from");
        }
        if (kind == SCRUM || kind == LINEOUT) {
            beginSetPiece();
            return false;
        }
        boolean isTaken = kind == PENALTY || kind == FREE_KICK;
        int team = isTaken ? coming.team : otherTeam(coming.team);
        Player one = squad(team).player(player);
        requireOn(one);
        if (isTaken) {
            one.place = coming.place;
        }
        beginOpenPlay(team, one);
        return true;
    }

    public char choose(char what, int place)
            throws IllegalArgumentException, IllegalStateException, UnsupportedOperationException {
        if (what != 'g' && what != 's' && what != 't') {
            throw new IllegalArgumentException("there is no such choice");
        }
        if (what == 't') {
            requirePlace(place, 1, FAR_END - 1);
        }
        boolean isPenalty = coming.kind == PENALTY;
        if (!isPenalty && coming.kind != FREE_KICK) {
            throw new IllegalStateException("no penalty or free kick is to come");
        }
        if (what == 'g' && !isPenalty) {
            throw new UnsupportedOperationException("a free kick gives no kick at goal");
        }
        int team = coming.team;
        if (what == 't') {
            return come(LINEOUT, isPenalty ? team : otherTeam(team), place);
        }
        return come(what == 'g' ? GOAL_KICK : SCRUM, team, coming.place);
    }

    public int kick(boolean isGood) throws IllegalStateException {
        if (!coming.isKick()) {
            throw new IllegalStateException("no kick at goal or conversion is to come");
        }
        int team = coming.team;
        if (isGood) {
            scoreKick();
        } else {
            missKick();
        }
        return pointsTold(team);
    }

    public char reset() throws IllegalStateException {
        if (ball.play != SCRUM) {
            throw new IllegalStateException("there is no scrum that goes on");
        }
        resets++;
        return resets < RESETS_TO_FREE_KICK ? SCRUM : stopFor(FREE_KICK, ball.team, ball.place);
    }

    public char review() throws IllegalStateException {
        if (coming.kind != CONVERSION || isTryLookedAt) {
            throw new IllegalStateException("there is no try to look at");
        }
        isTryLookedAt = true;
        int team = coming.team;
        Offence offence = firstUnseenOf(team);
        if (offence == null) {
            return CONVERSION;
        }
        note(TRY_UNDONE, team, coming.place);
        return come(offence.kind, otherTeam(team), offence.place);
    }

    // ---- cards and replacements

    public boolean card(int team, int player, char kind) throws IndexOutOfBoundsException, IllegalArgumentException,
            IllegalStateException, UnsupportedOperationException {
        Player one = find(team, player);
        if (kind != YELLOW && kind != RED && kind != UNDECIDED) {
            throw new IllegalArgumentException("there is no such card");
        }
        requireStopped();
        requireOn(one);
        char shown = kind == YELLOW && one.hadYellow ? RED : kind;
        one.sendOff(shown, times.allSeconds);
        note(shown, team, -1);
        return shown == RED;
    }

    public boolean decide(int team, int player, boolean isRed)
            throws IndexOutOfBoundsException, UnsupportedOperationException {
        Player one = find(team, player);
        if (one.where != Where.UNDECIDED) {
            throw new UnsupportedOperationException("the player is not under decision");
        }
        // The card counts from when it was shown, so that its second stays.
        one.sendOff(isRed || one.hadYellow ? RED : YELLOW, one.offSince);
        return times.allSeconds - one.offSince < LONG_DECISION;
    }

    public int comeBack(int team, int player)
            throws IndexOutOfBoundsException, IllegalStateException, UnsupportedOperationException {
        Player one = find(team, player);
        requireStopped();
        Squad squad = squad(team);
        Player cover = squad.player(one.coverNumber);
        int secondsOff = times.allSeconds - one.offSince;
        if (one.where == Where.SIN_BIN && secondsOff >= laws.yellowSeconds && hasRoom(squad)) {
            one.comeOnAt(HALFWAY);
        } else if (one.where == Where.COVERED && secondsOff <= one.secondsToComeBack && cover.isOn()) {
            one.comeOnAt(cover.place);
            cover.where = Where.BENCH;
        } else {
            throw new UnsupportedOperationException("the player cannot come back");
        }
        return squad.numberOn();
    }

    public int replace(int team, int off, int on, char kind) throws IndexOutOfBoundsException,
            IllegalArgumentException, IllegalStateException, UnsupportedOperationException {
        requireTeam(team);
        requireNumber(on);
        if (off != 0) {
            requireNumber(off);
        }
        boolean isLasting = kind == 't' || kind == 'i';
        boolean isKind = isLasting || kind == 'b' || kind == 'h';
        if (!isKind || (off == 0 && kind != 't')) {
            throw new IllegalArgumentException("there is no such kind of replacement");
        }
        requireStopped();
        Squad squad = squad(team);
        if (!isReplaceable(squad, off, on) || (isLasting && squad.lastingReplacements >= MOST_REPLACEMENTS)) {
            throw new UnsupportedOperationException("the replacement cannot be made");
        }
        Player goer = squad.player(off);
        squad.player(on).comeOnAt(off == 0 ? HALFWAY : goer.place);
        if (off != 0) {
            goer.goOffFor(on, kind, times.allSeconds);
        }
        if (isLasting) {
            squad.lastingReplacements++;
        }
        return squad.lastingReplacements;
    }

    public int onField(int team) throws IndexOutOfBoundsException {
        requireTeam(team);
        return squad(team).numberOn();
    }

    public int allowed(int team) throws IndexOutOfBoundsException {
        requireTeam(team);
        return mostOnField(squad(team));
    }

    // ---- decisions and points

    public int decisions() {
        return list.size();
    }

    public int decision(int index, char what) throws IndexOutOfBoundsException, IllegalArgumentException {
        if (index < 0 || index >= list.size()) {
            throw new IndexOutOfBoundsException("there is no such decision");
        }
        Decision one = list.get(index);
        switch (what) {
            case 'k':
                return one.kind;
            case 't':
                return one.team;
            case 'p':
                return one.place;
            case 's':
                return one.second;
            default:
                throw new IllegalArgumentException("there is no such thing of a decision");
        }
    }

    public int points(int team) throws IndexOutOfBoundsException {
        requireTeam(team);
        return pointsTold(team);
    }

    public int leaguePoints(int team) throws IndexOutOfBoundsException, IllegalStateException {
        requireTeam(team);
        if (times.isOn || isPeriodToFollow()) {
            throw new IllegalStateException("the match is not over");
        }
        int lead = pointsTold(team) - pointsTold(otherTeam(team));
        int league = triesTold(team) >= 4 ? 1 : 0;
        if (lead > 0) {
            league += 4;
        } else if (lead == 0) {
            league += 2;
        } else if (lead >= -7) {
            league += 1;
        }
        return league;
    }

    public float share(int team) throws IndexOutOfBoundsException, ArithmeticException {
        requireTeam(team);
        if (times.allSeconds == 0) {
            throw new ArithmeticException("there were no seconds of play");
        }
        return (float) squad(team).secondsWithBall / (float) times.allSeconds;
    }

    public long secondsOfPlay() {
        return times.allSeconds;
    }

    public double meanPhases() throws ArithmeticException {
        if (stops == 0) {
            throw new ArithmeticException("there were no stops of play");
        }
        return (double) allPhases / (double) stops;
    }

    public boolean isConsistent() {
        return isPlayConsistent() && isSquadConsistent(0) && isSquadConsistent(1);
    }

    // ---- what calls are tested for

    private static void requireTeam(int team) {
        if (team != 0 && team != 1) {
            throw new IndexOutOfBoundsException("there is no such team");
        }
    }

    private static void requireNumber(int player) {
        if (player < 1 || player > NUMBERS) {
            throw new IndexOutOfBoundsException("there is no such player");
        }
    }

    private static void requirePlace(int place, int least, int most) {
        if (place < least || place > most) {
            throw new IllegalArgumentException("the place is out of range");
        }
    }

    private static void requireOn(Player one) {
        if (!one.isOn()) {
            throw new UnsupportedOperationException("the player is not on the field");
        }
    }

    private static void requireOnOutsideRuck(Player one) {
        if (!one.isOn() || one.isInRuck) {
            throw new UnsupportedOperationException("the player is not on the field, or in the ruck");
        }
    }

    private void requireOpen() {
        if (ball.play != OPEN) {
            throw new IllegalStateException("play is not open");
        }
    }

    private void requireStopped() {
        if (!times.isOn || ball.play != STOPPED) {
            throw new IllegalStateException("no period is on, or play is not stopped");
        }
    }

    // ---- teams, players and places

    private static int otherTeam(int team) {
        return team == 0 ? 1 : 0;
    }

    private Squad squad(int team) {
        return team == 0 ? home : away;
    }

    private Player find(int team, int player) {
        requireTeam(team);
        requireNumber(player);
        return squad(team).player(player);
    }

    private Player findOpponent(int player) {
        requireNumber(player);
        requireOpen();
        Player one = squad(otherTeam(ball.team)).player(player);
        requireOn(one);
        return one;
    }

    private static int aheadBy(int team, int from, int to) {
        return team == 0 ? to - from : from - to;
    }

    private static int fromOwnGoal(int team, int place) {
        return team == 0 ? place : FAR_END - place;
    }

    private static int dropOutPlace(int team) {
        return team == 0 ? DROP_OUT_DISTANCE : FAR_END - DROP_OUT_DISTANCE;
    }

    private boolean isAheadOfLine(int team, Player one) {
        if (ball.play == OPEN) {
            return ball.team != team && aheadBy(team, ball.place, one.place) > 0;
        }
        return ball.play == RUCK && !one.isInRuck && aheadBy(team, ruckLine(team), one.place) > 0;
    }

    private int ruckLine(int team) {
        Player last = squad(team).lastInRuck(team);
        return last == null ? ball.place : last.place;
    }

    private int mostOnField(Squad squad) {
        return STARTERS - squad.numberCountedOff(times.allSeconds, laws);
    }

    private boolean hasRoom(Squad squad) {
        return squad.numberOn() < mostOnField(squad);
    }

    private boolean isReplaceable(Squad squad, int off, int on) {
        boolean isFree = off == 0 ? hasRoom(squad) : squad.player(off).isOn();
        return isFree && squad.player(on).where == Where.BENCH;
    }

    // ---- play that goes on

    private void playFor(int seconds) {
        times.count(seconds);
        if (ball.play == OPEN) {
            squad(ball.team).secondsWithBall += seconds;
        }
        closeAdvantages();
    }

    private void beginOpenPlay(int team, Player one) {
        startPlay(OPEN);
        ball.giveTo(team, one);
    }

    private void beginSetPiece() {
        ball.team = coming.team;
        ball.place = coming.place;
        startPlay(coming.kind);
    }

    private void startPlay(char play) {
        ball.play = play;
        coming.kind = NOTHING;
        unseen.clear();
    }

    private void leaveRuck() {
        home.leaveRuck();
        away.leaveRuck();
    }

    private void openAdvantage(int offender, char kind) {
        keepOffence(advantages, offender, kind);
    }

    private void keepOffence(ArrayList<Offence> offences, int offender, char kind) {
        if (offences.size() < MOST_OFFENCES) {
            offences.add(new Offence(offender, kind, ball.place, times.allSeconds, phases));
        }
    }

    private void closeAdvantages() {
        for (int i = advantages.size() - 1; i >= 0; i--) {
            if (isAdvantageOver(advantages.get(i))) {
                advantages.remove(i);
            }
        }
    }

    private boolean isAdvantageOver(Offence offence) {
        int team = otherTeam(offence.team);
        boolean hasBall = ball.play == OPEN && ball.team == team;
        boolean hasGained = hasBall && aheadBy(team, offence.place, ball.place) >= laws.gainBehind(offence.kind);
        return hasGained || times.allSeconds - offence.second >= laws.secondsBehind(offence.kind);
    }

    private Offence oldestAdvantageFor(int team) {
        for (int i = 0; i < advantages.size(); i++) {
            Offence offence = advantages.get(i);
            if (offence.team != team) {
                return offence;
            }
        }
        return null;
    }

    private Offence firstUnseenOf(int team) {
        for (int i = 0; i < unseen.size(); i++) {
            Offence offence = unseen.get(i);
            if (offence.team == team && offence.phases >= tryPhases - 1) {
                return offence;
            }
        }
        return null;
    }

    // ---- stops, and what is to come

    private char stopFor(char kind, int team, int place) {
        if (!advantages.isEmpty()) {
            return bringBackTo(advantages.get(0));
        }
        stopPlay();
        return come(kind, team, place);
    }

    private char bringBackTo(Offence offence) {
        stopPlay();
        return come(offence.kind, otherTeam(offence.team), offence.place);
    }

    private void stopPlay() {
        ball.play = STOPPED;
        ball.carrier = null;
        leaveRuck();
        advantages.clear();
        stops++;
        phases = 0;
        resets = 0;
    }

    private char come(char kind, int team, int place) {
        coming.set(kind, team, place);
        note(kind, team, place);
        boolean isLast = kind == SCRUM || kind == LINEOUT || kind == DROP_OUT || kind == KICK_OFF;
        return isLast && times.isRunOut() ? endPeriod() : kind;
    }

    private char endPeriod() {
        coming.kind = NOTHING;
        times.isOn = false;
        note(PERIOD_END, -1, -1);
        return PERIOD_END;
    }

    private boolean isPeriodToFollow() {
        if (times.number < 1) {
            return true;
        }
        return times.number < LAST_NUMBER && laws.mustHaveWinner == 1 && pointsTold(0) == pointsTold(1);
    }

    private void waitForKick(int seconds) {
        if (!coming.isKick()) {
            return;
        }
        coming.secondsWaited += seconds;
        if (coming.secondsWaited > (coming.kind == CONVERSION ? 90 : 60)) {
            missKick();
        }
    }

    private char scoreTry() {
        int team = ball.team;
        int place = ball.place;
        tryPhases = phases;
        isTryLookedAt = false;
        stopPlay();
        note(TRY_MADE, team, place);
        return times.number == LAST_NUMBER ? endPeriod() : come(CONVERSION, team, place);
    }

    private void scoreKick() {
        int team = coming.team;
        note(coming.kind == CONVERSION ? CONVERSION_GOOD : GOAL_GOOD, team, coming.place);
        if (times.number == LAST_NUMBER) {
            endPeriod();
        } else {
            come(KICK_OFF, otherTeam(team), HALFWAY);
        }
    }

    private void missKick() {
        int other = otherTeam(coming.team);
        boolean isConversion = coming.kind == CONVERSION;
        note(KICK_MISSED, coming.team, coming.place);
        if (isConversion) {
            come(KICK_OFF, other, HALFWAY);
        } else {
            come(DROP_OUT, other, dropOutPlace(other));
        }
    }

    // ---- the list of decisions

    private void note(char kind, int team, int place) {
        if (list.size() < MOST_DECISIONS) {
            list.add(new Decision(kind, team, place, times.allSeconds));
        }
    }

    private int timesTold(int team, char kind) {
        int count = 0;
        for (int i = 0; i < list.size(); i++) {
            Decision one = list.get(i);
            if (one.team == team && one.kind == kind) {
                count++;
            }
        }
        return count;
    }

    private int triesTold(int team) {
        return timesTold(team, TRY_MADE) - timesTold(team, TRY_UNDONE);
    }

    private int pointsTold(int team) {
        return 5 * triesTold(team) + 2 * timesTold(team, CONVERSION_GOOD) + 3 * timesTold(team, GOAL_GOOD);
    }

    // ---- invariants

    private boolean isPlayConsistent() {
        boolean isStopped = ball.play == STOPPED;
        boolean isSomethingToCome = coming.kind != NOTHING;
        if (isSomethingToCome != (isStopped && times.isOn) || (!times.isOn && !isStopped)) {
            return false;
        }
        if (isStopped && (!advantages.isEmpty() || phases != 0)) {
            return false;
        }
        Player carrier = ball.carrier;
        if (carrier == null) {
            return ball.play != OPEN;
        }
        return ball.play == OPEN && carrier.isOn() && carrier.place == ball.place;
    }

    private boolean isSquadConsistent(int team) {
        Squad squad = squad(team);
        boolean isRuckRight = ball.play == RUCK || squad.lastInRuck(team) == null;
        boolean isCountRight = squad.numberOn() <= mostOnField(squad);
        return isRuckRight && isCountRight && triesTold(team) >= 0;
    }

    /** Where a player is; COVERED: off by b or h, and another one is on instead. */
    private enum Where {
        FIELD, BENCH, GONE, COVERED, SIN_BIN, SENT_OFF, UNDECIDED
    }

    private static final class Laws {
        private int gain = 15;
        private int scrumGain = 8;
        private int seconds = 30;
        private int scrumSeconds = 15;
        private int yellowSeconds = 600;
        private int redSeconds = 0;
        private int mustHaveWinner = 0;

        static int leastOf(char which) {
            return which == 'r' || which == 'o' ? 0 : 1;
        }

        static int mostOf(char which) {
            switch (which) {
                case 'g':
                case 'h':
                    return 50;
                case 'a':
                case 'b':
                    return 120;
                case 'y':
                    return 1200;
                case 'r':
                    return 2400;
                case 'o':
                    return 1;
                default:
                    // Less than the least one: no value is right for a law that there is not.
                    return -1;
            }
        }

        int read(char which) {
            switch (which) {
                case 'g':
                    return gain;
                case 'h':
                    return scrumGain;
                case 'a':
                    return seconds;
                case 'b':
                    return scrumSeconds;
                case 'y':
                    return yellowSeconds;
                case 'r':
                    return redSeconds;
                default:
                    return mustHaveWinner;
            }
        }

        void write(char which, int value) {
            switch (which) {
                case 'g':
                    gain = value;
                    break;
                case 'h':
                    scrumGain = value;
                    break;
                case 'a':
                    seconds = value;
                    break;
                case 'b':
                    scrumSeconds = value;
                    break;
                case 'y':
                    yellowSeconds = value;
                    break;
                case 'r':
                    redSeconds = value;
                    break;
                default:
                    mustHaveWinner = value;
                    break;
            }
        }

        int gainBehind(char kind) {
            return kind == SCRUM ? scrumGain : gain;
        }

        int secondsBehind(char kind) {
            return kind == SCRUM ? scrumSeconds : seconds;
        }
    }

    private static final class Times {
        private int number = NO_NUMBER;
        private boolean isOn;
        private int periodSeconds;
        private int allSeconds;

        void startNext() {
            number++;
            isOn = true;
            periodSeconds = 0;
        }

        void count(int seconds) {
            periodSeconds += seconds;
            allSeconds += seconds;
        }

        boolean isRunOut() {
            return periodSeconds >= (number < 2 ? 2400 : 600);
        }
    }

    /** What play is; the team is the one that has the ball, or whose scrum or lineout it is. */
    private static final class Ball {
        private char play = STOPPED;
        private int team;
        private int place;
        private Player carrier;

        void giveTo(int newTeam, Player one) {
            team = newTeam;
            carrier = one;
            place = one.place;
        }

        void moveTo(int newPlace) {
            place = newPlace;
            if (carrier != null) {
                carrier.place = newPlace;
            }
        }

        void layInRuckWith(Player tackler) {
            play = RUCK;
            tackler.place = place;
            tackler.isInRuck = true;
            if (carrier != null) {
                carrier.isInRuck = true;
            }
            carrier = null;
        }
    }

    private static final class Coming {
        private char kind = NOTHING;
        private int team;
        private int place;
        private int secondsWaited;

        void set(char newKind, int newTeam, int newPlace) {
            kind = newKind;
            team = newTeam;
            place = newPlace;
            secondsWaited = 0;
        }

        boolean isKick() {
            return kind == GOAL_KICK || kind == CONVERSION;
        }
    }

    private static final class Decision {
        private final char kind;
        private final int team;
        private final int place;
        private final int second;

        Decision(char kind, int team, int place, int second) {
            this.kind = kind;
            this.team = team;
            this.place = place;
            this.second = second;
        }
    }

    /** An offence of a team, which gives something to the other team, with the phases counted up to it. */
    private static final class Offence {
        private final int team;
        private final char kind;
        private final int place;
        private final int second;
        private final int phases;

        Offence(int team, char kind, int place, int second, int phases) {
            this.team = team;
            this.kind = kind;
            this.place = place;
            this.second = second;
            this.phases = phases;
        }
    }

    private static final class Player {
        private Where where;
        private int place;
        private boolean isInRuck;
        private boolean hadYellow;
        private int offSince;
        private int coverNumber;
        private int secondsToComeBack;

        Player(Where where, int place) {
            this.where = where;
            this.place = place;
        }

        boolean isOn() {
            return where == Where.FIELD;
        }

        void comeOnAt(int newPlace) {
            where = Where.FIELD;
            place = newPlace;
        }

        void goOffFor(int cover, char kind, int second) {
            where = kind == 'b' || kind == 'h' ? Where.COVERED : Where.GONE;
            coverNumber = cover;
            offSince = second;
            secondsToComeBack = kind == 'b' ? 900 : 720;
        }

        void sendOff(char kind, int second) {
            offSince = second;
            if (kind == YELLOW) {
                where = Where.SIN_BIN;
                hadYellow = true;
            } else {
                where = kind == RED ? Where.SENT_OFF : Where.UNDECIDED;
            }
        }

        boolean countsAsOff(int now, Laws laws) {
            int secondsOff = now - offSince;
            if (where == Where.SIN_BIN) {
                return secondsOff < laws.yellowSeconds;
            }
            if (where == Where.SENT_OFF) {
                return laws.redSeconds == 0 || secondsOff < laws.redSeconds;
            }
            return where == Where.UNDECIDED;
        }
    }

    private static final class Squad {
        private final Player[] players = new Player[NUMBERS + 1];
        private final Player nobody = new Player(Where.GONE, 0);
        private int lastingReplacements;
        private int secondsWithBall;

        Squad(int place) {
            for (int i = 0; i < players.length; i++) {
                players[i] = i == 0 ? nobody : new Player(i <= STARTERS ? Where.FIELD : Where.BENCH, place);
            }
        }

        Player player(int number) {
            return number > 0 && number < players.length ? players[number] : nobody;
        }

        int numberOn() {
            int count = 0;
            for (int i = 1; i < players.length; i++) {
                count += countOn(i);
            }
            return count;
        }

        int numberCountedOff(int now, Laws laws) {
            int count = 0;
            for (int i = 1; i < players.length; i++) {
                if (players[i].countsAsOff(now, laws)) {
                    count++;
                }
            }
            return count;
        }

        boolean hasFrontRow() {
            int props = countOn(1) + countOn(3) + countOn(16) + countOn(17);
            int hookers = countOn(2) + countOn(18);
            return props >= 2 && hookers >= 1;
        }

        void leaveRuck() {
            for (int i = 1; i < players.length; i++) {
                players[i].isInRuck = false;
            }
        }

        Player lastInRuck(int team) {
            Player last = null;
            for (int i = 1; i < players.length; i++) {
                Player one = players[i];
                if (one.isInRuck && (last == null || aheadBy(team, last.place, one.place) < 0)) {
                    last = one;
                }
            }
            return last;
        }

        private int countOn(int number) {
            return player(number).isOn() ? 1 : 0;
        }
    }
}
