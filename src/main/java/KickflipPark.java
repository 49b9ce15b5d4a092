import java.util.Arrays;
import java.util.NoSuchElementException;

/** A park of boards: its course, tricks, athletes and events. ../shared/DOC.md tells the promises. */
public final class KickflipPark {
    private static final int FEATURES = 10;
    private static final int TRICKS = 60;
    private static final int ATHLETES = 12;
    private static final int NATIONS = 4;
    private static final int EVENTS = 6;
    private static final int JUDGES = 5;
    private static final int RUNS = 60;
    private static final int TRICKS_IN_RUN = 10;
    private static final int RUNS_IN_ROUND = 2;
    private static final int GRABS = 5;
    private static final int FIRST_SPEED = 30;
    private static final int TOP_SPEED = 99;
    private static final int FALLS_THAT_HURT = 3;
    private static final int MULTIPLIER = 48271;
    private static final int MODULUS = 2147483647;
    private static final int NONE = -1;
    private static final int[] PLACE_POINTS = {100, 80, 60, 50, 45, 40, 36, 32, 29, 26};
    private static final int FURTHER_POINTS = 20;

    private final Feature[] features = new Feature[FEATURES];
    private final Trick[] tricks = new Trick[TRICKS];
    private final Athlete[] athletes = new Athlete[ATHLETES];
    private final Event[] events = new Event[EVENTS];
    private final Run[] runs = new Run[RUNS];
    // One row for all calls, because a row for each call would fill the room.
    private final int[] trickWorths = new int[TRICKS];
    private int featureCount = 0;
    private int trickCount = 0;
    private int athleteCount = 0;
    private int eventCount = 0;
    private int runCount = 0;
    private int closings = 0;
    private int quota = 3;
    private int days = 0;
    private int z = 1;
    private Run openRun = null;

    public KickflipPark() {
    }

    // The course.

    public int feature(char kind, int least, int greatest, int gain) throws IllegalArgumentException, IllegalStateException {
        if (!isKind(kind) || !isShape(least, greatest, gain)) {
            throw new IllegalArgumentException();
        }
        int number = featureCount;
        if (number >= features.length) {
            throw new IllegalStateException();
        }
        Feature made = new Feature(number, kind);
        made.shape(least, greatest, gain);
        features[number] = made;
        featureCount++;
        return number;
    }

    public int line(int from, int to, int loss) throws IndexOutOfBoundsException, IllegalArgumentException {
        Feature first = featureAt(from);
        Feature second = featureAt(to);
        if (first == null || second == null) {
            throw new IndexOutOfBoundsException();
        }
        if (first == second || !isWithin(loss, 0, 20)) {
            throw new IllegalArgumentException();
        }
        int before = first.lossTo(second);
        first.lead(second, loss);
        return before;
    }

    public int build(int feature, int least, int greatest, int gain) throws IndexOutOfBoundsException, IllegalArgumentException, IllegalStateException {
        Feature built = featureAt(feature);
        if (built == null) {
            throw new IndexOutOfBoundsException();
        }
        if (!isShape(least, greatest, gain)) {
            throw new IllegalArgumentException();
        }
        if (openRun != null) {
            throw new IllegalStateException();
        }
        int before = built.least;
        built.shape(least, greatest, gain);
        return before;
    }

    private static boolean isKind(char kind) {
        return kind == 'r' || kind == 'g' || kind == 'l' || kind == 'd';
    }

    private static boolean isShape(int least, int greatest, int gain) {
        return isWithin(least, 0, TOP_SPEED) && isWithin(greatest, least, TOP_SPEED) && isWithin(gain, -20, 20);
    }

    private static boolean isWithin(int number, int least, int greatest) {
        return number >= least && number <= greatest;
    }

    private Feature featureAt(int number) {
        return number >= 0 && number < features.length ? features[number] : null;
    }

    // Tricks.

    public int trick(char stance, char takeOff, char way, char axis, int halves, int grab, int held) throws IllegalArgumentException, IllegalStateException {
        if (!isTelling(stance, takeOff, way, axis) || !isWithin(halves, 0, 12) || !isGrab(grab, held)) {
            throw new IllegalArgumentException();
        }
        char tailStance = tailStance(stance, takeOff);
        char tailWay = tailWay(takeOff, way, halves);
        int realGrab = held > 0 ? grab : 0;
        Trick known = knownTrick(tailStance, tailWay, axis, halves, realGrab, held);
        if (known != null) {
            return known.number;
        }
        int number = trickCount;
        if (number >= tricks.length) {
            throw new IllegalStateException();
        }
        tricks[number] = new Trick(number, tailStance, tailWay, axis, halves, realGrab, held);
        trickCount++;
        return number;
    }

    public int tricks() {
        return trickCount;
    }

    public int base(int trick) throws IndexOutOfBoundsException {
        Trick asked = trickAt(trick);
        if (asked == null) {
            throw new IndexOutOfBoundsException();
        }
        return asked.base;
    }

    public char of(int trick, char what) throws IndexOutOfBoundsException, IllegalArgumentException {
        Trick asked = trickAt(trick);
        if (asked == null) {
            throw new IndexOutOfBoundsException();
        }
        if (what == 's') {
            return asked.stance;
        }
        if (what == 'w') {
            return asked.way;
        }
        if (what == 'a') {
            return asked.axis;
        }
        throw new IllegalArgumentException();
    }

    private static boolean isTelling(char stance, char takeOff, char way, char axis) {
        return (stance == 'n' || stance == 's') && (takeOff == 'o' || takeOff == 'p') && (way == 'f' || way == 'b')
                && (axis == 'u' || axis == 'c' || axis == 'd' || axis == 'i');
    }

    private static boolean isGrab(int grab, int held) {
        return isWithin(grab, 0, GRABS) && isWithin(held, 0, grab == 0 ? 0 : 3);
    }

    private static char tailStance(char stance, char takeOff) {
        return takeOff == 'p' ? otherStance(stance) : stance;
    }

    private static char otherStance(char stance) {
        return stance == 'n' ? 's' : 'n';
    }

    private static char tailWay(char takeOff, char way, int halves) {
        if (halves == 0) {
            return '-';
        }
        return takeOff == 'p' ? otherWay(way) : way;
    }

    private static char otherWay(char way) {
        return way == 'f' ? 'b' : 'f';
    }

    private static int baseTold(char stance, char takeOff, char axis, int halves, int grab, int held) {
        int base = 5 * halves + axisWorth(axis);
        if (tailStance(stance, takeOff) == 's') {
            base += 6;
        }
        if (grab > 0 && held > 0) {
            base += 3 + 2 * held;
        }
        return base;
    }

    private static int axisWorth(char axis) {
        if (axis == 'c') {
            return 8;
        }
        if (axis == 'd') {
            return 16;
        }
        return axis == 'i' ? 12 : 0;
    }

    private Trick knownTrick(char stance, char way, char axis, int halves, int grab, int held) {
        for (Trick trick : tricks) {
            if (trick != null && trick.stance == stance && trick.way == way && trick.axis == axis
                    && trick.halves == halves && trick.grab == grab && trick.held == held) {
                return trick;
            }
        }
        return null;
    }

    private Trick trickAt(int number) {
        return number >= 0 && number < tricks.length ? tricks[number] : null;
    }

    // Athletes and events.

    public int athlete(int nation) throws IllegalArgumentException, IllegalStateException {
        if (!isWithin(nation, 0, NATIONS - 1)) {
            throw new IllegalArgumentException();
        }
        int number = athleteCount;
        if (number >= athletes.length) {
            throw new IllegalStateException();
        }
        athletes[number] = new Athlete(number, nation);
        athleteCount++;
        return number;
    }

    public int quota(int quota) throws IllegalArgumentException {
        if (!isWithin(quota, 1, 4)) {
            throw new IllegalArgumentException();
        }
        int before = this.quota;
        this.quota = quota;
        return before;
    }

    public int event(char format, int edition, int judges) throws IllegalArgumentException, IllegalStateException {
        if (!isFormat(format) || !isWithin(edition, 0, 7) || !isWithin(judges, 1, JUDGES)) {
            throw new IllegalArgumentException();
        }
        int number = eventCount;
        if (number >= events.length) {
            throw new IllegalStateException();
        }
        events[number] = new Event(format, edition, judges);
        eventCount++;
        return number;
    }

    public int enter(int event, int athlete) throws IndexOutOfBoundsException, UnsupportedOperationException {
        Event entered = eventAt(event);
        Athlete who = athleteAt(athlete);
        if (entered == null || who == null) {
            throw new IndexOutOfBoundsException();
        }
        if (entered.entryOf(who) != null || entered.countOf(who.nation) >= quota || !entered.isBeforeRuns()) {
            throw new UnsupportedOperationException();
        }
        entered.admit(who);
        entered.round.lineUp(entered.entries);
        return entered.round.size();
    }

    private static boolean isFormat(char format) {
        return format == 'b' || format == 's' || format == 'j';
    }

    private Athlete athleteAt(int number) {
        return number >= 0 && number < athletes.length ? athletes[number] : null;
    }

    private Event eventAt(int number) {
        return number >= 0 && number < events.length ? events[number] : null;
    }

    // Start orders.

    public int draw(int event) throws IndexOutOfBoundsException, UnsupportedOperationException {
        Event drawn = eventAt(event);
        if (drawn == null) {
            throw new IndexOutOfBoundsException();
        }
        if (!drawn.isBeforeRuns() || drawn.round.starterAt(0) == null) {
            throw new UnsupportedOperationException();
        }
        drawn.round.lineUp(drawn.entries);
        shuffle(drawn.round);
        Entry first = drawn.round.starterAt(0);
        return first == null ? NONE : first.athlete.number;
    }

    public int starter(int event, int place) throws IndexOutOfBoundsException, NoSuchElementException {
        Event asked = eventAt(event);
        if (asked == null) {
            throw new IndexOutOfBoundsException();
        }
        Entry entry = asked.round.starterAt(place);
        if (entry == null) {
            throw new NoSuchElementException();
        }
        return entry.athlete.number;
    }

    public int seed(int z) throws IllegalArgumentException {
        if (!isWithin(z, 1, MODULUS - 1)) {
            throw new IllegalArgumentException();
        }
        int before = this.z;
        this.z = z;
        return before;
    }

    // Places are from 0, so the first one has no step of its own and a lone athlete leaves z as it was.
    private void shuffle(Round round) {
        for (int k = round.size() - 1; k >= 1; k--) {
            z = (int) ((long) z * MULTIPLIER % MODULUS);
            round.swap(k, z % (k + 1));
        }
    }

    // Runs.

    public int start(int event, int athlete) throws IndexOutOfBoundsException, UnsupportedOperationException, IllegalStateException {
        Event on = eventAt(event);
        Athlete who = athleteAt(athlete);
        if (on == null || who == null) {
            throw new IndexOutOfBoundsException();
        }
        Entry entry = on.entryOf(who);
        if (entry == null || !mayStart(on, entry)) {
            throw new UnsupportedOperationException();
        }
        int number = runCount;
        if (openRun != null || number >= runs.length) {
            throw new IllegalStateException();
        }
        openRun = new Run(number, on, entry);
        runs[number] = openRun;
        runCount++;
        on.hasRun = true;
        return number;
    }

    public boolean does(int trick, int feature, char fault) throws IndexOutOfBoundsException, IllegalArgumentException, IllegalStateException, UnsupportedOperationException {
        Trick told = trickAt(trick);
        Feature there = featureAt(feature);
        if (told == null || there == null) {
            throw new IndexOutOfBoundsException();
        }
        if (!isFault(fault)) {
            throw new IllegalArgumentException();
        }
        Run run = openRun;
        if (run == null || run.isFull()) {
            throw new IllegalStateException();
        }
        if (!run.isLedTo(there)) {
            throw new UnsupportedOperationException();
        }
        boolean isFall = fault == 'f' || !there.isClearedAt(run.arrivalAt(there));
        run.add(new Done(told, there, isFall ? 'f' : fault));
        if (isFall) {
            run.entry.fall();
        }
        return !isFall;
    }

    public int speed() throws IllegalStateException {
        if (openRun == null) {
            throw new IllegalStateException();
        }
        return openRun.speed;
    }

    public int end() throws IllegalStateException {
        Run run = openRun;
        if (run == null) {
            throw new IllegalStateException();
        }
        run.isEnded = true;
        openRun = null;
        return run.parts;
    }

    public int worth(int run, int place) throws IndexOutOfBoundsException, NoSuchElementException {
        Run asked = runAt(run);
        if (asked == null) {
            throw new IndexOutOfBoundsException();
        }
        if (asked.doneAt(place) == null) {
            throw new NoSuchElementException();
        }
        return asked.worthAt(place);
    }

    public int parts(int run) throws IndexOutOfBoundsException {
        Run asked = runAt(run);
        if (asked == null) {
            throw new IndexOutOfBoundsException();
        }
        return asked.parts;
    }

    private boolean mayStart(Event event, Entry entry) {
        return event.round.isOf(entry) && entry.athlete.daysHurt == 0 && !event.isHeld && !event.isClosed
                && runsInRound(event.round, entry) < RUNS_IN_ROUND;
    }

    private int runsInRound(Round round, Entry entry) {
        int count = 0;
        for (Run run : runs) {
            if (run != null && run.round == round && run.entry == entry) {
                count++;
            }
        }
        return count;
    }

    private static boolean isFault(char fault) {
        return fault == 'h' || fault == 'r' || fault == 'f' || fault == '-';
    }

    private static int afterFault(int full, char fault) {
        if (fault == 'h') {
            return full - full * 3 / 10;
        }
        if (fault == 'r') {
            return full - full * 2 / 10;
        }
        return fault == 'f' ? 0 : full;
    }

    private Run runAt(int number) {
        return number >= 0 && number < runs.length ? runs[number] : null;
    }

    private boolean isOpenIn(Event event) {
        return openRun != null && openRun.event == event;
    }

    // Judges and protests.

    public int mark(int run, int judge, int mark) throws IndexOutOfBoundsException, IllegalArgumentException, UnsupportedOperationException {
        Run marked = runAt(run);
        if (marked == null || !marked.event.isJudge(judge)) {
            throw new IndexOutOfBoundsException();
        }
        if (!isWithin(mark, 0, 100)) {
            throw new IllegalArgumentException();
        }
        if (!marked.isEnded || marked.event.isClosed) {
            throw new UnsupportedOperationException();
        }
        marked.put(judge, mark);
        return marked.markCount();
    }

    public int control(int event, int judge, int above) throws IndexOutOfBoundsException, IllegalArgumentException, UnsupportedOperationException {
        Event controlled = eventAt(event);
        if (controlled == null || !controlled.isJudge(judge)) {
            throw new IndexOutOfBoundsException();
        }
        if (!isWithin(above, -50, 50)) {
            throw new IllegalArgumentException();
        }
        if (controlled.isClosed) {
            throw new UnsupportedOperationException();
        }
        controlled.tell(judge, above);
        return controlled.slipOf(judge);
    }

    public int score(int run) throws IndexOutOfBoundsException, UnsupportedOperationException {
        Run asked = runAt(run);
        if (asked == null) {
            throw new IndexOutOfBoundsException();
        }
        if (!asked.isScored()) {
            throw new UnsupportedOperationException();
        }
        return asked.total();
    }

    public int strike(int run) throws IndexOutOfBoundsException, UnsupportedOperationException {
        Run struck = runAt(run);
        if (struck == null) {
            throw new IndexOutOfBoundsException();
        }
        if (!struck.isEnded || struck.isStruck || struck.event.isClosed) {
            throw new UnsupportedOperationException();
        }
        struck.isStruck = true;
        return runsLeft(struck.entry);
    }

    public int protest(int run, int place, int trick) throws IndexOutOfBoundsException, NoSuchElementException, UnsupportedOperationException {
        Run seen = runAt(run);
        Trick was = trickAt(trick);
        if (seen == null || was == null) {
            throw new IndexOutOfBoundsException();
        }
        Done done = seen.doneAt(place);
        if (done == null) {
            throw new NoSuchElementException();
        }
        if (!seen.isEnded || seen.event.isClosed) {
            throw new UnsupportedOperationException();
        }
        done.trick = was;
        // A later trick may have become a repeat, or be none any more.
        seen.parts = seen.worthOfAll();
        return seen.parts;
    }

    // One that is open is left too: it is a run that was not struck out.
    private int runsLeft(Entry entry) {
        int count = 0;
        for (Run run : runs) {
            if (run != null && run.entry == entry && !run.isStruck) {
                count++;
            }
        }
        return count;
    }

    // Formats, places and heats.

    public int sum(int event, int athlete) throws IndexOutOfBoundsException, NoSuchElementException, UnsupportedOperationException {
        Event asked = eventAt(event);
        Athlete who = athleteAt(athlete);
        if (asked == null || who == null) {
            throw new IndexOutOfBoundsException();
        }
        return rankedEntry(asked, who).sum;
    }

    public int place(int event, int athlete) throws IndexOutOfBoundsException, NoSuchElementException, UnsupportedOperationException {
        Event asked = eventAt(event);
        Athlete who = athleteAt(athlete);
        if (asked == null || who == null) {
            throw new IndexOutOfBoundsException();
        }
        return asked.placeOf(rankedEntry(asked, who));
    }

    public int heat(int event, int athlete, int other) throws IndexOutOfBoundsException, IllegalArgumentException, NoSuchElementException, UnsupportedOperationException {
        Event asked = eventAt(event);
        Athlete one = athleteAt(athlete);
        Athlete two = athleteAt(other);
        if (asked == null || one == null || two == null) {
            throw new IndexOutOfBoundsException();
        }
        if (one == two) {
            throw new IllegalArgumentException();
        }
        Run first = lastRun(asked.entryOf(one));
        Run second = lastRun(asked.entryOf(two));
        if (first == null || second == null) {
            throw new NoSuchElementException();
        }
        if (!isAllScored(asked)) {
            throw new UnsupportedOperationException();
        }
        rank(asked);
        return isHeatWonBy(first, second) ? one.number : two.number;
    }

    private Entry rankedEntry(Event event, Athlete athlete) {
        Entry entry = event.entryOf(athlete);
        if (entry == null || lastRun(entry) == null) {
            throw new NoSuchElementException();
        }
        if (!isAllScored(event)) {
            throw new UnsupportedOperationException();
        }
        rank(event);
        return entry;
    }

    private static boolean isHeatWonBy(Run run, Run other) {
        int mine = run.total();
        int theirs = other.total();
        return mine == theirs ? run.entry.isAheadOf(other.entry) : mine > theirs;
    }

    private Run lastRun(Entry entry) {
        Run last = null;
        for (Run run : runs) {
            if (run != null && run.entry == entry && run.isCounting()) {
                last = run;
            }
        }
        return last;
    }

    private boolean isAllScored(Event event) {
        for (Run run : runs) {
            if (run != null && run.event == event && run.isCounting() && !run.isScored()) {
                return false;
            }
        }
        return true;
    }

    private void rank(Event event) {
        for (Entry entry : event.entries) {
            if (entry != null) {
                standOf(event, entry);
            }
        }
    }

    private void standOf(Event event, Entry entry) {
        Run best = null;
        entry.firstRun = NONE;
        for (Run run : runs) {
            if (run == null || run.entry != entry || !run.isCounting()) {
                continue;
            }
            if (entry.firstRun == NONE) {
                entry.firstRun = run.number;
            }
            if (best == null || run.total() > best.total()) {
                best = run;
            }
        }
        entry.best = best == null ? 0 : best.total();
        entry.sum = event.format == 'j' ? 0 : entry.best;
        if (event.format != 'b') {
            gatherWorths(entry, event.format == 's' ? best : null);
            entry.sum += 100 * bestTricks(event.format == 's' ? 2 : 3);
        }
    }

    private void gatherWorths(Entry entry, Run leftOut) {
        Arrays.fill(trickWorths, 0);
        for (Run run : runs) {
            if (run == null || run == leftOut || run.entry != entry || !run.isCounting()) {
                continue;
            }
            for (Done done : run.row) {
                int trick = done == null ? NONE : done.trick.number;
                if (done != null && trick >= 0 && trick < trickWorths.length) {
                    trickWorths[trick] = Math.max(trickWorths[trick], done.loneWorth());
                }
            }
        }
    }

    private int bestTricks(int many) {
        int total = 0;
        for (int i = 0; i < many; i++) {
            total += takeBestWorth();
        }
        return total;
    }

    private int takeBestWorth() {
        int best = 0;
        int bestTrick = NONE;
        for (int trick = 0; trick < trickWorths.length; trick++) {
            if (trickWorths[trick] > best) {
                best = trickWorths[trick];
                bestTrick = trick;
            }
        }
        if (bestTrick >= 0 && bestTrick < trickWorths.length) {
            trickWorths[bestTrick] = 0;
        }
        return best;
    }

    // Holds, rounds and closing.

    public boolean hold(int event, boolean is) throws IndexOutOfBoundsException, UnsupportedOperationException {
        Event held = eventAt(event);
        if (held == null) {
            throw new IndexOutOfBoundsException();
        }
        if (held.isClosed) {
            throw new UnsupportedOperationException();
        }
        boolean before = held.isHeld;
        held.isHeld = is;
        return before;
    }

    public int round(int event, int many) throws IndexOutOfBoundsException, IllegalArgumentException, UnsupportedOperationException {
        Event on = eventAt(event);
        if (on == null) {
            throw new IndexOutOfBoundsException();
        }
        if (!isWithin(many, 1, ATHLETES)) {
            throw new IllegalArgumentException();
        }
        if (on.isHeld || on.isClosed || isOpenIn(on) || !isAllScored(on)) {
            throw new UnsupportedOperationException();
        }
        rank(on);
        if (on.placeCount() < many) {
            throw new UnsupportedOperationException();
        }
        on.beginRound(many);
        return on.round.number;
    }

    public boolean close(int event) throws IndexOutOfBoundsException, UnsupportedOperationException {
        Event closed = eventAt(event);
        if (closed == null) {
            throw new IndexOutOfBoundsException();
        }
        if (closed.isClosed || isOpenIn(closed) || !isScoredToClose(closed)) {
            throw new UnsupportedOperationException();
        }
        if (closed.isHeld) {
            loseUnfinishedRounds(closed);
        }
        closings++;
        closed.isClosed = true;
        closed.closing = closings;
        rank(closed);
        closed.award();
        return closed.placeCount() > 0;
    }

    private boolean isScoredToClose(Event event) {
        for (Run run : runs) {
            if (run != null && run.event == event && run.isCounting() && !run.isScored()
                    && (!event.isHeld || isFinished(run.round))) {
                return false;
            }
        }
        return true;
    }

    private void loseUnfinishedRounds(Event event) {
        for (Run run : runs) {
            if (run != null && run.event == event && !isFinished(run.round)) {
                run.isLost = true;
            }
        }
    }

    private boolean isFinished(Round round) {
        for (Entry entry : round.order) {
            if (entry != null && !hasEndedRun(round, entry)) {
                return false;
            }
        }
        return true;
    }

    // A run that was struck out is an ended one still, though it does not count.
    private boolean hasEndedRun(Round round, Entry entry) {
        for (Run run : runs) {
            if (run != null && run.round == round && run.entry == entry && run.isEnded) {
                return true;
            }
        }
        return false;
    }

    private static int pointsFor(int place) {
        return place >= 1 && place <= PLACE_POINTS.length ? PLACE_POINTS[place - 1] : FURTHER_POINTS;
    }

    // Points and lists.

    public int points(int event, int athlete) throws IndexOutOfBoundsException {
        Event asked = eventAt(event);
        Athlete who = athleteAt(athlete);
        if (asked == null || who == null) {
            throw new IndexOutOfBoundsException();
        }
        Entry entry = asked.entryOf(who);
        return entry == null ? 0 : entry.points;
    }

    public int list(int athlete) throws IndexOutOfBoundsException {
        Athlete who = athleteAt(athlete);
        if (who == null) {
            throw new IndexOutOfBoundsException();
        }
        return listSum(who);
    }

    public int listed(int place) throws NoSuchElementException {
        if (place >= 0) {
            for (Athlete athlete : athletes) {
                if (athlete != null && listPlace(athlete) == place) {
                    return athlete.number;
                }
            }
        }
        throw new NoSuchElementException();
    }

    // Each is aged before the best are taken: the document orders no like points of unlike age.
    private int listSum(Athlete athlete) {
        int best = 0;
        int second = 0;
        int third = 0;
        for (Event event : events) {
            int aged = event == null ? 0 : agedPoints(event, athlete);
            if (aged > best) {
                third = second;
                second = best;
                best = aged;
            } else if (aged > second) {
                third = second;
                second = aged;
            } else if (aged > third) {
                third = aged;
            }
        }
        return best + second + third;
    }

    private int agedPoints(Event event, Athlete athlete) {
        Entry entry = event.entryOf(athlete);
        if (entry == null) {
            return 0;
        }
        int aged = entry.points;
        for (int since = closings - event.closing; since >= 2; since -= 2) {
            aged /= 2;
        }
        return aged;
    }

    private int listPlace(Athlete athlete) {
        int sum = listSum(athlete);
        int ahead = 0;
        for (Athlete other : athletes) {
            if (other == null) {
                continue;
            }
            int otherSum = listSum(other);
            if (otherSum > sum || otherSum == sum && other.number < athlete.number) {
                ahead++;
            }
        }
        return ahead;
    }

    // Injuries.

    public int hurt(int athlete) throws IndexOutOfBoundsException {
        Athlete who = athleteAt(athlete);
        if (who == null) {
            throw new IndexOutOfBoundsException();
        }
        return who.daysHurt;
    }

    public int day() {
        for (Athlete athlete : athletes) {
            if (athlete != null && athlete.daysHurt > 0) {
                athlete.daysHurt--;
            }
        }
        days++;
        return days;
    }

    // Choices.

    public int risk(int athlete, int trick, int risk) throws IndexOutOfBoundsException, IllegalArgumentException {
        Athlete who = athleteAt(athlete);
        Trick told = trickAt(trick);
        if (who == null || told == null) {
            throw new IndexOutOfBoundsException();
        }
        if (!isWithin(risk, 0, 100)) {
            throw new IllegalArgumentException();
        }
        int before = who.riskOf(told);
        who.dare(told, risk);
        return before;
    }

    public long choice(int athlete, int need) throws IndexOutOfBoundsException, IllegalArgumentException, NoSuchElementException {
        Athlete who = athleteAt(athlete);
        if (who == null) {
            throw new IndexOutOfBoundsException();
        }
        if (!isWithin(need, 1, 999)) {
            throw new IllegalArgumentException();
        }
        Choice choice = new Choice(need);
        for (Trick trick : tricks) {
            if (who.isDaring(trick)) {
                choice.offer(trick.base, who.riskOf(trick), 1L << trick.number);
                tryPairs(choice, who, trick);
            }
        }
        if (choice.bits == 0L) {
            throw new NoSuchElementException();
        }
        return choice.bits;
    }

    private void tryPairs(Choice choice, Athlete who, Trick first) {
        for (int number = first.number + 1; number < tricks.length; number++) {
            Trick second = trickAt(number);
            if (who.isDaring(second)) {
                choice.offer(first.base + second.base, who.riskOf(first) + who.riskOf(second),
                        1L << first.number | 1L << second.number);
                tryTriples(choice, who, first, second);
            }
        }
    }

    private void tryTriples(Choice choice, Athlete who, Trick first, Trick second) {
        int base = first.base + second.base;
        int risk = who.riskOf(first) + who.riskOf(second);
        long bits = 1L << first.number | 1L << second.number;
        for (int number = second.number + 1; number < tricks.length; number++) {
            Trick third = trickAt(number);
            if (who.isDaring(third)) {
                choice.offer(base + third.base, risk + who.riskOf(third), bits | 1L << number);
            }
        }
    }

    // Sums over everything.

    public float fallShare() throws ArithmeticException {
        int falls = 0;
        int all = 0;
        for (Run run : runs) {
            if (run != null) {
                falls += run.fallCount();
                all += run.size;
            }
        }
        if (all == 0) {
            throw new ArithmeticException();
        }
        return (float) falls / (float) all;
    }

    public double meanParts() throws ArithmeticException {
        int total = 0;
        int ended = 0;
        for (Run run : runs) {
            if (run != null && run.isEnded) {
                total += run.parts;
                ended++;
            }
        }
        if (ended == 0) {
            throw new ArithmeticException();
        }
        return (double) total / (double) ended;
    }

    public long checksum() {
        long total = 7L;
        for (Run run : runs) {
            if (run == null) {
                continue;
            }
            total = 31L * total + run.entry.athlete.number;
            for (Done done : run.row) {
                if (done != null) {
                    total = 31L * total + done.code();
                }
            }
        }
        return total;
    }

    public boolean isTrue() {
        return arePartsSums() && areBasesAlike() && areSumsBest() && areRoundsKept();
    }

    private boolean arePartsSums() {
        for (Run run : runs) {
            if (run != null && run.parts != run.worthOfAll()) {
                return false;
            }
        }
        return true;
    }

    private boolean areBasesAlike() {
        for (Trick trick : tricks) {
            if (trick != null && !isBaseAlike(trick)) {
                return false;
            }
        }
        return true;
    }

    private static boolean isBaseAlike(Trick trick) {
        char turned = otherStance(trick.stance);
        if (baseTold(turned, 'p', trick.axis, trick.halves, trick.grab, trick.held) != trick.base) {
            return false;
        }
        for (int grab = 1; trick.grab == 0 && grab <= GRABS; grab++) {
            if (baseTold(trick.stance, 'o', trick.axis, trick.halves, grab, 0) != trick.base) {
                return false;
            }
        }
        return true;
    }

    private boolean areSumsBest() {
        for (Event event : events) {
            if (event == null || !isAllScored(event)) {
                continue;
            }
            rank(event);
            for (Entry entry : event.entries) {
                if (entry != null && entry.sum != triedSum(event.format, entry)) {
                    return false;
                }
            }
        }
        return true;
    }

    private int triedSum(char format, Entry entry) {
        if (format == 's') {
            gatherWorths(entry, runWithBest(entry));
            return entry.best + 100 * triedTricks(2);
        }
        if (format == 'j') {
            gatherWorths(entry, null);
            return 100 * triedTricks(3);
        }
        return entry.best;
    }

    private Run runWithBest(Entry entry) {
        for (Run run : runs) {
            if (run != null && run.entry == entry && run.isCounting() && run.total() == entry.best) {
                return run;
            }
        }
        return null;
    }

    /** The best of all choices of up to as many tricks, 1 to 3; one that is worth nothing is as none. */
    private int triedTricks(int many) {
        int best = 0;
        for (int one = 0; one < trickWorths.length; one++) {
            if (trickWorths[one] == 0) {
                continue;
            }
            best = Math.max(best, trickWorths[one]);
            for (int two = one + 1; many >= 2 && two < trickWorths.length; two++) {
                if (trickWorths[two] == 0) {
                    continue;
                }
                int pair = trickWorths[one] + trickWorths[two];
                best = Math.max(best, pair);
                for (int three = two + 1; many >= 3 && three < trickWorths.length; three++) {
                    best = Math.max(best, pair + trickWorths[three]);
                }
            }
        }
        return best;
    }

    private boolean areRoundsKept() {
        for (Run run : runs) {
            if (run != null && runsInRound(run.round, run.entry) > RUNS_IN_ROUND) {
                return false;
            }
        }
        return true;
    }

    private static final class Feature {
        private final int number;
        private final char kind;
        private final int[] losses = new int[FEATURES];
        private int least = 0;
        private int greatest = 0;
        private int gain = 0;

        private Feature(int number, char kind) {
            this.number = number;
            this.kind = kind;
            Arrays.fill(losses, NONE);
        }

        private void shape(int newLeast, int newGreatest, int newGain) {
            least = newLeast;
            greatest = newGreatest;
            gain = newGain;
        }

        private int lossTo(Feature to) {
            return to.number >= 0 && to.number < losses.length ? losses[to.number] : NONE;
        }

        private void lead(Feature to, int loss) {
            if (to.number >= 0 && to.number < losses.length) {
                losses[to.number] = loss;
            }
        }

        private boolean isClearedAt(int speed) {
            return isWithin(speed, least, greatest);
        }

        private int worthHere(int base) {
            if (kind == 'r') {
                return base + 4;
            }
            if (kind == 'l') {
                return base + 2;
            }
            return kind == 'd' ? base / 2 : base;
        }
    }

    /** A trick as told from the tail. */
    private static final class Trick {
        private final int number;
        private final char stance;
        private final char way;
        private final char axis;
        private final int halves;
        private final int grab;
        private final int held;
        private final int base;

        private Trick(int number, char stance, char way, char axis, int halves, int grab, int held) {
            this.number = number;
            this.stance = stance;
            this.way = way;
            this.axis = axis;
            this.halves = halves;
            this.grab = grab;
            this.held = held;
            this.base = baseTold(stance, 'o', axis, halves, grab, held);
        }
    }

    private static final class Athlete {
        private final int number;
        private final int nation;
        private final int[] risks = new int[TRICKS];
        private int daysHurt = 0;

        private Athlete(int number, int nation) {
            this.number = number;
            this.nation = nation;
            Arrays.fill(risks, NONE);
        }

        private boolean isDaring(Trick trick) {
            return trick != null && riskOf(trick) != NONE;
        }

        private int riskOf(Trick trick) {
            return trick.number >= 0 && trick.number < risks.length ? risks[trick.number] : NONE;
        }

        private void dare(Trick trick, int risk) {
            if (trick.number >= 0 && trick.number < risks.length) {
                risks[trick.number] = risk;
            }
        }
    }

    /** An athlete in one event; sum, best and firstRun stand as the event was ranked last. */
    private static final class Entry {
        private final Athlete athlete;
        private int falls = 0;
        private int points = 0;
        private int sum = 0;
        private int best = 0;
        private int firstRun = NONE;

        private Entry(Athlete athlete) {
            this.athlete = athlete;
        }

        private void fall() {
            falls++;
            if (falls >= FALLS_THAT_HURT) {
                athlete.daysHurt = Math.max(athlete.daysHurt, falls);
            }
        }

        private boolean isAheadOf(Entry other) {
            if (firstRun == NONE || other.firstRun == NONE) {
                return firstRun != NONE;
            }
            if (sum != other.sum) {
                return sum > other.sum;
            }
            return best == other.best ? firstRun < other.firstRun : best > other.best;
        }
    }

    private static final class Round {
        private final int number;
        private final Entry[] order = new Entry[ATHLETES];

        private Round(int number) {
            this.number = number;
        }

        private void lineUp(Entry[] byNumber) {
            int place = 0;
            for (Entry entry : byNumber) {
                if (entry != null && place < order.length) {
                    order[place] = entry;
                    place++;
                }
            }
        }

        private void put(int place, Entry entry) {
            if (place >= 0 && place < order.length) {
                order[place] = entry;
            }
        }

        private Entry starterAt(int place) {
            return place >= 0 && place < order.length ? order[place] : null;
        }

        private int size() {
            int count = 0;
            for (Entry entry : order) {
                if (entry != null) {
                    count++;
                }
            }
            return count;
        }

        private boolean isOf(Entry asked) {
            for (Entry entry : order) {
                if (entry == asked) {
                    return true;
                }
            }
            return false;
        }

        private void swap(int place, int other) {
            Entry moved = starterAt(place);
            put(place, starterAt(other));
            put(other, moved);
        }
    }

    private static final class Event {
        private final char format;
        private final int judges;
        private final boolean isBySight;
        private final boolean isHalving;
        private final boolean isByFeature;
        private final Entry[] entries = new Entry[ATHLETES];
        private final int[] slipSums = new int[JUDGES];
        private final int[] slipCounts = new int[JUDGES];
        private Round round = new Round(1);
        private boolean hasRun = false;
        private boolean isHeld = false;
        private boolean isClosed = false;
        private int closing = 0;

        private Event(char format, int edition, int judges) {
            this.format = format;
            this.judges = judges;
            this.isBySight = (edition & 1) != 0;
            this.isHalving = (edition & 2) != 0;
            this.isByFeature = (edition & 4) != 0;
        }

        private boolean isBeforeRuns() {
            return !hasRun && !isClosed;
        }

        private Entry entryOf(Athlete athlete) {
            return athlete.number >= 0 && athlete.number < entries.length ? entries[athlete.number] : null;
        }

        private void admit(Athlete athlete) {
            if (athlete.number >= 0 && athlete.number < entries.length) {
                entries[athlete.number] = new Entry(athlete);
            }
        }

        private int countOf(int nation) {
            int count = 0;
            for (Entry entry : entries) {
                if (entry != null && entry.athlete.nation == nation) {
                    count++;
                }
            }
            return count;
        }

        private boolean isJudge(int judge) {
            return judge >= 0 && judge < judges;
        }

        private void tell(int judge, int above) {
            if (judge >= 0 && judge < slipSums.length && judge < slipCounts.length) {
                slipSums[judge] += above;
                slipCounts[judge]++;
            }
        }

        private int slipOf(int judge) {
            if (judge < 0 || judge >= slipSums.length || judge >= slipCounts.length || slipCounts[judge] == 0) {
                return 0;
            }
            return slipSums[judge] / slipCounts[judge];
        }

        private int placeCount() {
            int count = 0;
            for (Entry entry : entries) {
                if (entry != null && entry.firstRun != NONE) {
                    count++;
                }
            }
            return count;
        }

        private int placeOf(Entry entry) {
            int place = 1;
            for (Entry other : entries) {
                if (other != null && other.isAheadOf(entry)) {
                    place++;
                }
            }
            return place;
        }

        private void beginRound(int many) {
            Round next = new Round(round.number + 1);
            for (Entry entry : entries) {
                if (entry != null && entry.firstRun != NONE) {
                    next.put(many - placeOf(entry), entry);
                }
            }
            round = next;
        }

        private void award() {
            for (Entry entry : entries) {
                if (entry != null && entry.firstRun != NONE) {
                    entry.points = pointsFor(placeOf(entry));
                }
            }
        }
    }

    private static final class Done {
        private final Feature feature;
        private final char fault;
        private Trick trick;

        private Done(Trick trick, Feature feature, char fault) {
            this.trick = trick;
            this.feature = feature;
            this.fault = fault;
        }

        private boolean isFall() {
            return fault == 'f';
        }

        /** What it would be worth if it were no repeat. */
        private int loneWorth() {
            return afterFault(feature.worthHere(trick.base), fault);
        }

        private int code() {
            return trick.number + 100 * feature.number + (isFall() ? 10000 : 0);
        }
    }

    private static final class Run {
        private final int number;
        private final Event event;
        private final Entry entry;
        private final Round round;
        private final Done[] row = new Done[TRICKS_IN_RUN];
        private final int[] marks = new int[JUDGES];
        private int size = 0;
        private int speed = FIRST_SPEED;
        private int parts = 0;
        private boolean isEnded = false;
        private boolean isStruck = false;
        // By closing the event while it was held.
        private boolean isLost = false;

        private Run(int number, Event event, Entry entry) {
            this.number = number;
            this.event = event;
            this.entry = entry;
            this.round = event.round;
            Arrays.fill(marks, NONE);
        }

        private boolean isFull() {
            return size >= row.length;
        }

        private Done doneAt(int place) {
            return place >= 0 && place < row.length ? row[place] : null;
        }

        /** The last trick if a line must lead on from it: none at first and behind a fall. */
        private Done lastStanding() {
            Done last = doneAt(size - 1);
            return last == null || last.isFall() ? null : last;
        }

        private boolean isLedTo(Feature there) {
            Done last = lastStanding();
            return last == null || last.feature.lossTo(there) != NONE;
        }

        private int arrivalAt(Feature there) {
            Done last = lastStanding();
            return last == null ? speed : Math.max(0, speed - last.feature.lossTo(there));
        }

        private void add(Done done) {
            if (size < 0 || size >= row.length) {
                return;
            }
            int arrival = arrivalAt(done.feature);
            speed = done.isFall() ? FIRST_SPEED : Math.min(TOP_SPEED, Math.max(0, arrival + done.feature.gain));
            row[size] = done;
            parts += worthAt(size);
            size++;
        }

        private boolean isRepeat(int place, Done done) {
            for (int i = 0; i < place && i < row.length; i++) {
                Done before = row[i];
                if (before != null && before.trick == done.trick
                        && (!event.isByFeature || before.feature == done.feature)) {
                    return true;
                }
            }
            return false;
        }

        private int worthAt(int place) {
            Done done = doneAt(place);
            if (done == null) {
                return 0;
            }
            int full = done.feature.worthHere(done.trick.base);
            if (isRepeat(place, done)) {
                full = event.isHalving ? full / 2 : 0;
            }
            return afterFault(full, done.fault);
        }

        private int worthOfAll() {
            int total = 0;
            for (int place = 0; place < row.length; place++) {
                total += worthAt(place);
            }
            return total;
        }

        private int fallCount() {
            int count = 0;
            for (Done done : row) {
                if (done != null && done.isFall()) {
                    count++;
                }
            }
            return count;
        }

        private void put(int judge, int newMark) {
            if (judge >= 0 && judge < marks.length) {
                marks[judge] = newMark;
            }
        }

        private int markCount() {
            int count = 0;
            for (int given : marks) {
                if (given != NONE) {
                    count++;
                }
            }
            return count;
        }

        private boolean isCounting() {
            return isEnded && !isStruck && !isLost;
        }

        private boolean isScored() {
            return isEnded && (!event.isBySight || markCount() >= event.judges);
        }

        private int total() {
            return event.isBySight ? bySight() : 100 * parts;
        }

        private int bySight() {
            int total = 0;
            int least = 0;
            int greatest = 0;
            for (int judge = 0; judge < event.judges && judge < marks.length; judge++) {
                int clean = marks[judge] - event.slipOf(judge);
                total += clean;
                least = judge == 0 ? clean : Math.min(least, clean);
                greatest = judge == 0 ? clean : Math.max(greatest, clean);
            }
            int left = event.judges;
            if (left >= 4) {
                total -= least + greatest;
                left -= 2;
            }
            return left > 0 ? total * 100 / left : 0;
        }
    }

    /** The best set of tricks that was offered, none while its bits are 0. */
    private static final class Choice {
        private final int need;
        private int risk = 0;
        private long bits = 0L;

        private Choice(int need) {
            this.need = need;
        }

        private void offer(int newBase, int newRisk, long newBits) {
            if (newBase >= need && (bits == 0L || isBetter(newRisk, newBits))) {
                risk = newRisk;
                bits = newBits;
            }
        }

        private boolean isBetter(int newRisk, long newBits) {
            if (newRisk != risk) {
                return newRisk < risk;
            }
            int many = Long.bitCount(bits);
            int newMany = Long.bitCount(newBits);
            return newMany == many ? newBits < bits : newMany < many;
        }
    }
}
