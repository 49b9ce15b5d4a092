import java.util.ArrayList;
import java.util.Collections;
import java.util.Comparator;
import java.util.HashMap;
import java.util.List;
import java.util.Map;
import java.util.NoSuchElementException;
import java.util.TreeMap;
import java.util.TreeSet;

/** A second telling of the document: it keeps what was told, and works every answer out of that anew. */
final class ParkModel {
    record Telling(char stance, char way, char axis, int halves, int grab, int held) {
        int base() {
            int axisWorth = Map.of('u', 0, 'c', 8, 'd', 16, 'i', 12).get(axis);
            return 5 * halves + axisWorth + (stance == 's' ? 6 : 0) + (grab > 0 ? 3 + 2 * held : 0);
        }
    }

    record Act(int trick, int feature, char fault) {
    }

    static final class Meet {
        char format;
        int edition;
        int judges;
        TreeSet<Integer> entered = new TreeSet<>();
        List<List<Integer>> rounds = new ArrayList<>();
        boolean held;
        boolean closed;
        int closedAs;
        Map<Integer, List<Integer>> controls = new HashMap<>();
        Map<Integer, Integer> falls = new HashMap<>();

        List<Integer> now() {
            return rounds.get(rounds.size() - 1);
        }
    }

    static final class Ride {
        int number;
        Meet meet;
        int athlete;
        int round;
        List<Act> acts = new ArrayList<>();
        Map<Integer, Integer> marks = new TreeMap<>();
        int speed = 30;
        boolean ended;
        boolean struck;
    }

    final List<Character> kinds = new ArrayList<>();
    final List<int[]> shapes = new ArrayList<>();
    final Map<List<Integer>, Integer> lines = new HashMap<>();
    final List<Telling> tellings = new ArrayList<>();
    final List<Integer> nations = new ArrayList<>();
    final Map<Integer, Integer> hurtUntil = new HashMap<>();
    final List<Meet> meets = new ArrayList<>();
    final List<Ride> rides = new ArrayList<>();
    final Map<List<Integer>, Integer> risks = new HashMap<>();
    int quota = 3;
    int z = 1;
    int day = 0;
    int closings = 0;
    Ride open = null;

    static void bounds(boolean fine) {
        if (!fine) {
            throw new IndexOutOfBoundsException();
        }
    }

    static void legal(boolean fine) {
        if (!fine) {
            throw new IllegalArgumentException();
        }
    }

    static void state(boolean fine) {
        if (!fine) {
            throw new IllegalStateException();
        }
    }

    static void element(boolean fine) {
        if (!fine) {
            throw new NoSuchElementException();
        }
    }

    static void can(boolean fine) {
        if (!fine) {
            throw new UnsupportedOperationException();
        }
    }

    static boolean in(int x, int from, int to) {
        return from <= x && x <= to;
    }

    static boolean has(List<?> list, int index) {
        return in(index, 0, list.size() - 1);
    }

    static boolean oneOf(String letters, char letter) {
        return letters.indexOf(letter) >= 0;
    }

    static boolean isShape(int least, int greatest, int gain) {
        return in(least, 0, 99) && in(greatest, 0, 99) && least <= greatest && in(gain, -20, 20);
    }

    int feature(char kind, int least, int greatest, int gain) {
        legal(oneOf("rgld", kind) && isShape(least, greatest, gain));
        state(kinds.size() < 10);
        kinds.add(kind);
        shapes.add(new int[] {least, greatest, gain});
        return kinds.size() - 1;
    }

    int line(int from, int to, int loss) {
        bounds(has(kinds, from) && has(kinds, to));
        legal(from != to && in(loss, 0, 20));
        Integer before = lines.put(List.of(from, to), loss);
        return before == null ? -1 : before;
    }

    int build(int feature, int least, int greatest, int gain) {
        bounds(has(kinds, feature));
        legal(isShape(least, greatest, gain));
        state(open == null);
        return shapes.set(feature, new int[] {least, greatest, gain})[0];
    }

    int trick(char stance, char takeOff, char way, char axis, int halves, int grab, int held) {
        legal(oneOf("ns", stance) && oneOf("op", takeOff) && oneOf("fb", way) && oneOf("ucdi", axis));
        legal(in(halves, 0, 12) && in(grab, 0, 5) && in(held, 0, 3) && !(held > 0 && grab == 0));
        char s = takeOff == 'o' ? stance : stance == 'n' ? 's' : 'n';
        char w = halves == 0 ? '-' : takeOff == 'o' ? way : way == 'f' ? 'b' : 'f';
        Telling told = new Telling(s, w, axis, halves, held == 0 ? 0 : grab, held);
        if (!tellings.contains(told)) {
            state(tellings.size() < 60);
            tellings.add(told);
        }
        return tellings.indexOf(told);
    }

    int tricks() {
        return tellings.size();
    }

    int base(int trick) {
        bounds(has(tellings, trick));
        return tellings.get(trick).base();
    }

    char of(int trick, char what) {
        bounds(has(tellings, trick));
        legal(oneOf("swa", what));
        Telling told = tellings.get(trick);
        return what == 's' ? told.stance() : what == 'w' ? told.way() : told.axis();
    }

    int athlete(int nation) {
        legal(in(nation, 0, 3));
        state(nations.size() < 12);
        nations.add(nation);
        return nations.size() - 1;
    }

    int quota(int told) {
        legal(in(told, 1, 4));
        int before = quota;
        quota = told;
        return before;
    }

    int event(char format, int edition, int judges) {
        legal(oneOf("bsj", format) && in(edition, 0, 7) && in(judges, 1, 5));
        state(meets.size() < 6);
        Meet meet = new Meet();
        meet.format = format;
        meet.edition = edition;
        meet.judges = judges;
        meet.rounds.add(new ArrayList<>());
        meets.add(meet);
        return meets.size() - 1;
    }

    boolean isBegun(Meet meet) {
        return rides.stream().anyMatch(r -> r.meet == meet);
    }

    int enter(int event, int athlete) {
        bounds(has(meets, event) && has(nations, athlete));
        Meet meet = meets.get(event);
        long same = meet.entered.stream().filter(a -> nations.get(a).equals(nations.get(athlete))).count();
        can(!meet.entered.contains(athlete) && same < quota && !isBegun(meet) && !meet.closed);
        meet.entered.add(athlete);
        meet.rounds.set(0, new ArrayList<>(meet.entered));
        return meet.entered.size();
    }

    int draw(int event) {
        bounds(has(meets, event));
        Meet meet = meets.get(event);
        can(!meet.entered.isEmpty() && !isBegun(meet) && !meet.closed);
        List<Integer> order = new ArrayList<>(meet.entered);
        for (int k = order.size() - 1; k >= 1; k--) {
            z = (int) (48271L * z % 2147483647L);
            Collections.swap(order, k, z % (k + 1));
        }
        meet.rounds.set(0, order);
        return order.get(0);
    }

    int starter(int event, int place) {
        bounds(has(meets, event));
        element(has(meets.get(event).now(), place));
        return meets.get(event).now().get(place);
    }

    int start(int event, int athlete) {
        bounds(has(meets, event) && has(nations, athlete));
        Meet meet = meets.get(event);
        int round = meet.rounds.size();
        long had = rides.stream().filter(r -> r.meet == meet && r.athlete == athlete && r.round == round).count();
        can(meet.now().contains(athlete) && hurt(athlete) == 0 && had < 2 && !meet.held && !meet.closed);
        state(open == null && rides.size() < 60);
        open = new Ride();
        open.number = rides.size();
        open.meet = meet;
        open.athlete = athlete;
        open.round = round;
        rides.add(open);
        return open.number;
    }

    boolean does(int trick, int feature, char fault) {
        bounds(has(tellings, trick) && has(kinds, feature));
        legal(oneOf("hrf-", fault));
        state(open != null && open.acts.size() < 10);
        int speed = open.speed;
        Act last = open.acts.isEmpty() ? null : open.acts.get(open.acts.size() - 1);
        if (last != null && last.fault() != 'f') {
            Integer loss = lines.get(List.of(last.feature(), feature));
            can(loss != null);
            speed = Math.max(0, speed - loss);
        }
        int[] shape = shapes.get(feature);
        boolean falls = fault == 'f' || !in(speed, shape[0], shape[1]);
        open.acts.add(new Act(trick, feature, falls ? 'f' : fault));
        open.speed = falls ? 30 : Math.min(99, Math.max(0, speed + shape[2]));
        if (falls) {
            int all = open.meet.falls.merge(open.athlete, 1, Integer::sum);
            if (all >= 3) {
                hurtUntil.merge(open.athlete, day + all, Math::max);
            }
        }
        return !falls;
    }

    int speed() {
        state(open != null);
        return open.speed;
    }

    int end() {
        state(open != null);
        Ride ended = open;
        ended.ended = true;
        open = null;
        return partsOf(ended);
    }

    static int withFault(int worth, char fault) {
        return fault == 'f' ? 0 : fault == 'h' ? worth - 3 * worth / 10 : fault == 'r' ? worth - 2 * worth / 10 : worth;
    }

    int full(Act act) {
        int base = tellings.get(act.trick()).base();
        char kind = kinds.get(act.feature());
        return kind == 'r' ? base + 4 : kind == 'l' ? base + 2 : kind == 'd' ? base / 2 : base;
    }

    int alone(Act act) {
        return withFault(full(act), act.fault());
    }

    int worthOf(Ride ride, int place) {
        Act act = ride.acts.get(place);
        boolean byFeature = ride.meet.edition >= 4;
        boolean half = ride.meet.edition % 4 >= 2;
        boolean repeated = ride.acts.subList(0, place).stream()
                .anyMatch(a -> a.trick() == act.trick() && (!byFeature || a.feature() == act.feature()));
        return withFault(!repeated ? full(act) : half ? full(act) / 2 : 0, act.fault());
    }

    int partsOf(Ride ride) {
        int parts = 0;
        for (int place = 0; place < ride.acts.size(); place++) {
            parts += worthOf(ride, place);
        }
        return parts;
    }

    int worth(int run, int place) {
        bounds(has(rides, run));
        element(has(rides.get(run).acts, place));
        return worthOf(rides.get(run), place);
    }

    int parts(int run) {
        bounds(has(rides, run));
        return partsOf(rides.get(run));
    }

    int mark(int run, int judge, int mark) {
        bounds(has(rides, run) && in(judge, 0, rides.get(run).meet.judges - 1));
        legal(in(mark, 0, 100));
        Ride ride = rides.get(run);
        can(ride.ended && !ride.meet.closed);
        ride.marks.put(judge, mark);
        return ride.marks.size();
    }

    int slip(Meet meet, int judge) {
        List<Integer> told = meet.controls.getOrDefault(judge, List.of());
        int sum = told.stream().mapToInt(x -> x).sum();
        int size = Math.max(1, told.size());
        return sum < 0 ? -(-sum / size) : sum / size;
    }

    int control(int event, int judge, int above) {
        bounds(has(meets, event) && in(judge, 0, meets.get(event).judges - 1));
        legal(in(above, -50, 50));
        Meet meet = meets.get(event);
        can(!meet.closed);
        meet.controls.computeIfAbsent(judge, j -> new ArrayList<>()).add(above);
        return slip(meet, judge);
    }

    boolean isScored(Ride ride) {
        return ride.ended && (ride.meet.edition % 2 == 0 || ride.marks.size() == ride.meet.judges);
    }

    int scoreOf(Ride ride) {
        if (ride.meet.edition % 2 == 0) {
            return 100 * partsOf(ride);
        }
        List<Integer> clean = new ArrayList<>();
        ride.marks.forEach((judge, mark) -> clean.add(mark - slip(ride.meet, judge)));
        Collections.sort(clean);
        List<Integer> left = clean.size() >= 4 ? clean.subList(1, clean.size() - 1) : clean;
        return left.stream().mapToInt(x -> x).sum() * 100 / left.size();
    }

    int score(int run) {
        bounds(has(rides, run));
        can(isScored(rides.get(run)));
        return scoreOf(rides.get(run));
    }

    int strike(int run) {
        bounds(has(rides, run));
        Ride ride = rides.get(run);
        can(ride.ended && !ride.struck && !ride.meet.closed);
        ride.struck = true;
        return (int) rides.stream().filter(r -> r.meet == ride.meet && r.athlete == ride.athlete && !r.struck).count();
    }

    int protest(int run, int place, int trick) {
        bounds(has(rides, run) && has(tellings, trick));
        Ride ride = rides.get(run);
        element(has(ride.acts, place));
        can(ride.ended && !ride.meet.closed);
        Act was = ride.acts.get(place);
        ride.acts.set(place, new Act(trick, was.feature(), was.fault()));
        return partsOf(ride);
    }

    boolean isWhole(Meet meet, int round) {
        return meet.rounds.get(round - 1).stream().allMatch(a ->
                rides.stream().anyMatch(r -> r.meet == meet && r.round == round && r.athlete == a && r.ended));
    }

    List<Ride> counting(Meet meet, boolean asClosed) {
        return rides.stream().filter(r -> r.meet == meet && r.ended && !r.struck)
                .filter(r -> !(asClosed && meet.held) || isWhole(meet, r.round)).toList();
    }

    List<Ride> counting(Meet meet, int athlete) {
        return counting(meet, meet.closed).stream().filter(r -> r.athlete == athlete).toList();
    }

    boolean allScored(Meet meet) {
        return counting(meet, meet.closed).stream().allMatch(this::isScored);
    }

    int best(Meet meet, int athlete) {
        return counting(meet, athlete).stream().mapToInt(this::scoreOf).max().getAsInt();
    }

    /** The most that so many unlike tricks of the rides are worth: each trick once, the best first. */
    int tops(List<Ride> from, int many) {
        Map<Integer, Integer> byTrick = new HashMap<>();
        from.forEach(r -> r.acts.forEach(a -> byTrick.merge(a.trick(), alone(a), Math::max)));
        return byTrick.values().stream().sorted(Comparator.reverseOrder()).limit(many).mapToInt(x -> x).sum();
    }

    int sumOf(Meet meet, int athlete) {
        List<Ride> own = new ArrayList<>(counting(meet, athlete));
        int best = best(meet, athlete);
        if (meet.format == 'b') {
            return best;
        }
        if (meet.format == 'j') {
            return 100 * tops(own, 3);
        }
        own.remove(own.stream().filter(r -> scoreOf(r) == best).findFirst().get());
        return best + 100 * tops(own, 2);
    }

    List<Integer> byPlaces(Meet meet) {
        return meet.entered.stream().filter(a -> !counting(meet, a).isEmpty())
                .sorted(Comparator.comparingInt((Integer a) -> -sumOf(meet, a)).thenComparingInt(a -> -best(meet, a))
                        .thenComparingInt(a -> counting(meet, a).get(0).number)).toList();
    }

    void askPlaces(int event, int athlete) {
        bounds(has(meets, event) && has(nations, athlete));
        element(!counting(meets.get(event), athlete).isEmpty());
        can(allScored(meets.get(event)));
    }

    int sum(int event, int athlete) {
        askPlaces(event, athlete);
        return sumOf(meets.get(event), athlete);
    }

    int place(int event, int athlete) {
        askPlaces(event, athlete);
        return byPlaces(meets.get(event)).indexOf(athlete) + 1;
    }

    int heat(int event, int athlete, int other) {
        bounds(has(meets, event) && has(nations, athlete) && has(nations, other));
        legal(athlete != other);
        Meet meet = meets.get(event);
        List<Ride> mine = counting(meet, athlete);
        List<Ride> theirs = counting(meet, other);
        element(!mine.isEmpty() && !theirs.isEmpty());
        can(allScored(meet));
        int more = scoreOf(mine.get(mine.size() - 1)) - scoreOf(theirs.get(theirs.size() - 1));
        if (more == 0) {
            more = byPlaces(meet).indexOf(other) - byPlaces(meet).indexOf(athlete);
        }
        return more > 0 ? athlete : other;
    }

    boolean hold(int event, boolean is) {
        bounds(has(meets, event));
        Meet meet = meets.get(event);
        can(!meet.closed);
        boolean before = meet.held;
        meet.held = is;
        return before;
    }

    boolean isOpen(Meet meet) {
        return open != null && open.meet == meet;
    }

    int round(int event, int many) {
        bounds(has(meets, event));
        legal(in(many, 1, 12));
        Meet meet = meets.get(event);
        can(!meet.held && !meet.closed && !isOpen(meet) && allScored(meet) && byPlaces(meet).size() >= many);
        List<Integer> order = new ArrayList<>(byPlaces(meet).subList(0, many));
        Collections.reverse(order);
        meet.rounds.add(order);
        return meet.rounds.size();
    }

    boolean close(int event) {
        bounds(has(meets, event));
        Meet meet = meets.get(event);
        can(!meet.closed && !isOpen(meet) && counting(meet, true).stream().allMatch(this::isScored));
        meet.closed = true;
        meet.closedAs = ++closings;
        return !counting(meet, true).isEmpty();
    }

    int pointsOf(Meet meet, int athlete) {
        if (!meet.closed || counting(meet, athlete).isEmpty()) {
            return 0;
        }
        List<Integer> points = List.of(100, 80, 60, 50, 45, 40, 36, 32, 29, 26, 20, 20);
        return points.get(byPlaces(meet).indexOf(athlete));
    }

    int points(int event, int athlete) {
        bounds(has(meets, event) && has(nations, athlete));
        return pointsOf(meets.get(event), athlete);
    }

    int list(int athlete) {
        bounds(has(nations, athlete));
        return meets.stream().map(m -> pointsOf(m, athlete) / (1 << (closings - m.closedAs) / 2))
                .sorted(Comparator.reverseOrder()).limit(3).mapToInt(x -> x).sum();
    }

    int listed(int place) {
        List<Integer> all = new ArrayList<>();
        for (int athlete = 0; athlete < nations.size(); athlete++) {
            all.add(athlete);
        }
        element(has(all, place));
        all.sort(Comparator.comparingInt(a -> -list(a)));
        return all.get(place);
    }

    int hurt(int athlete) {
        bounds(has(nations, athlete));
        return Math.max(0, hurtUntil.getOrDefault(athlete, 0) - day);
    }

    int day() {
        return ++day;
    }

    int risk(int athlete, int trick, int risk) {
        bounds(has(nations, athlete) && has(tellings, trick));
        legal(in(risk, 0, 100));
        Integer before = risks.put(List.of(athlete, trick), risk);
        return before == null ? -1 : before;
    }

    long choice(int athlete, int need) {
        bounds(has(nations, athlete));
        legal(in(need, 1, 999));
        // Sets of at most three as rows of base, risk, size and bits, grown by a trick at a time.
        List<long[]> sets = new ArrayList<>();
        sets.add(new long[4]);
        for (int trick = 0; trick < tellings.size(); trick++) {
            Integer risk = risks.get(List.of(athlete, trick));
            int size = sets.size();
            for (int i = 0; risk != null && i < size; i++) {
                long[] s = sets.get(i);
                if (s[2] < 3) {
                    sets.add(new long[] {s[0] + tellings.get(trick).base(), s[1] + risk, s[2] + 1, s[3] + (1L << trick)});
                }
            }
        }
        return sets.stream().filter(s -> s[2] > 0 && s[0] >= need)
                .min(Comparator.comparingLong((long[] s) -> s[1]).thenComparingLong(s -> s[2]).thenComparingLong(s -> s[3]))
                .orElseThrow(NoSuchElementException::new)[3];
    }

    int seed(int told) {
        legal(in(told, 1, 2147483646));
        int before = z;
        z = told;
        return before;
    }

    float fallShare() {
        long all = rides.stream().mapToLong(r -> r.acts.size()).sum();
        long falls = rides.stream().flatMap(r -> r.acts.stream()).filter(a -> a.fault() == 'f').count();
        if (all == 0) {
            throw new ArithmeticException();
        }
        return (float) falls / (float) all;
    }

    double meanParts() {
        List<Ride> ended = rides.stream().filter(r -> r.ended).toList();
        if (ended.isEmpty()) {
            throw new ArithmeticException();
        }
        return (double) ended.stream().mapToInt(this::partsOf).sum() / (double) ended.size();
    }

    long checksum() {
        long sum = 7;
        for (Ride ride : rides) {
            sum = 31 * sum + ride.athlete;
            for (Act act : ride.acts) {
                sum = 31 * sum + act.trick() + 100 * act.feature() + (act.fault() == 'f' ? 10000 : 0);
            }
        }
        return sum;
    }

    boolean isTrue() {
        return true;
    }
}
