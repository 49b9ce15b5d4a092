/** Promises 21 to 25: mark, control, score, strike, protest. */
public final class JudgeTest {
    private static final Checks c = new Checks("JudgeTest");

    public static void main(String[] args) {
        marking();
        slips();
        sights();
        partScores();
        striking();
        protesting();
        c.end();
    }

    /** A rail with a line to a gap and back; tricks of base 10, 15 and 20; athletes 0 and 1 entered. */
    private static KickflipPark park(int edition, int judges) {
        KickflipPark p = new KickflipPark();
        p.feature('r', 0, 99, 0);
        p.feature('g', 0, 99, 0);
        p.line(0, 1, 0);
        p.line(1, 0, 0);
        for (int halves = 2; halves <= 4; halves++) {
            p.trick('n', 'o', 'f', 'u', halves, 0, 0);
        }
        p.athlete(0);
        p.athlete(1);
        p.event('b', edition, judges);
        p.enter(0, 0);
        p.enter(0, 1);
        return p;
    }

    private static void marking() {
        KickflipPark p = park(1, 3);
        c.refused("no run", IndexOutOfBoundsException.class, () -> p.mark(0, 0, 101));
        p.start(0, 0);
        c.refused("open", UnsupportedOperationException.class, () -> p.mark(0, 0, 50));
        c.refused("open, above", IllegalArgumentException.class, () -> p.mark(0, 0, 101));
        p.end();
        c.refused("no judge, above", IndexOutOfBoundsException.class, () -> p.mark(0, 3, 101));
        c.refused("judge below", IndexOutOfBoundsException.class, () -> p.mark(0, -1, 50));
        c.refused("above", IllegalArgumentException.class, () -> p.mark(0, 0, 101));
        c.refused("below", IllegalArgumentException.class, () -> p.mark(0, 0, -1));
        c.due("one", p.mark(0, 2, 0), 1);
        c.due("in place", p.mark(0, 2, 100), 1);
        c.due("two", p.mark(0, 0, 50), 2);
        c.refused("not marked by all", UnsupportedOperationException.class, () -> p.score(0));
        c.due("three", p.mark(0, 1, 40), 3);
        c.due("score", p.score(0), 6333);
        c.due("in place again", p.mark(0, 2, 10), 3);
        c.due("score then", p.score(0), 3333);
        p.strike(0);
        c.due("a struck run can be marked", p.mark(0, 2, 0), 3);
        p.close(0);
        c.refused("closed", UnsupportedOperationException.class, () -> p.mark(0, 0, 50));
        KickflipPark q = park(0, 1);
        q.start(0, 0);
        q.end();
        c.due("by parts too", q.mark(0, 0, 50), 1);
        c.due("but parts count", q.score(0), 0);
    }

    private static void slips() {
        KickflipPark p = park(1, 2);
        c.refused("no event", IndexOutOfBoundsException.class, () -> p.control(1, 0, 0));
        c.refused("no judge, above", IndexOutOfBoundsException.class, () -> p.control(0, 2, 51));
        c.refused("above", IllegalArgumentException.class, () -> p.control(0, 0, 51));
        c.refused("below", IllegalArgumentException.class, () -> p.control(0, 0, -51));
        c.due("one", p.control(0, 0, -50), -50);
        c.due("mean", p.control(0, 0, 45), -2);
        c.due("cut toward 0", p.control(0, 0, 3), 0);
        c.due("of another judge", p.control(0, 1, 7), 7);
        c.due("cut", p.control(0, 1, 50), 28);
        p.event('b', 1, 2);
        c.due("of another event", p.control(1, 1, 50), 50);
        p.close(0);
        c.refused("closed", UnsupportedOperationException.class, () -> p.control(0, 0, 0));
        c.refused("closed, above", IllegalArgumentException.class, () -> p.control(0, 0, 51));
    }

    private static void sights() {
        c.due("one judge", sight(7), 700);
        c.due("two", sight(7, 8), 750);
        c.due("three, cut", sight(0, 0, 100), 3333);
        c.due("three, cut once more", sight(0, 100, 100), 6666);
        c.due("four", sight(0, 50, 61, 100), 5550);
        c.due("five, cut", sight(0, 100, 50, 50, 51), 5033);
        c.due("four alike", sight(9, 9, 9, 9), 900);
        KickflipPark p = park(1, 4);
        p.start(0, 0);
        p.end();
        int[] marks = {50, 60, 70, 80};
        for (int judge = 0; judge < 4; judge++) {
            p.mark(0, judge, marks[judge]);
        }
        p.control(0, 3, 50);
        // 50, 60, 70 and 30 are the differences: the least is left out behind the slips.
        c.due("slips before the least and greatest", p.score(0), 5500);
        KickflipPark q = park(1, 1);
        q.start(0, 0);
        q.end();
        q.mark(0, 0, 10);
        q.control(0, 0, 50);
        c.due("below 0", q.score(0), -4000);
        c.refused("no run", IndexOutOfBoundsException.class, () -> q.score(1));
        q.start(0, 0);
        c.refused("open", UnsupportedOperationException.class, () -> q.score(1));
    }

    private static int sight(int... marks) {
        KickflipPark p = park(1, marks.length);
        p.start(0, 0);
        p.does(0, 0, '-');
        p.end();
        for (int judge = 0; judge < marks.length; judge++) {
            p.mark(0, judge, marks[judge]);
        }
        return p.score(0);
    }

    private static void partScores() {
        KickflipPark p = park(0, 5);
        p.start(0, 0);
        p.does(0, 0, '-');
        p.does(1, 1, '-');
        c.refused("open", UnsupportedOperationException.class, () -> p.score(0));
        p.end();
        c.due("parts times 100", p.score(0), 2900);
    }

    private static void striking() {
        KickflipPark p = park(1, 1);
        c.refused("no run", IndexOutOfBoundsException.class, () -> p.strike(0));
        p.start(0, 0);
        c.refused("open", UnsupportedOperationException.class, () -> p.strike(0));
        p.end();
        p.start(0, 1);
        p.end();
        p.start(0, 0);
        p.end();
        p.mark(0, 0, 50);
        p.mark(1, 0, 40);
        p.mark(2, 0, 30);
        c.due("best", p.sum(0, 0), 5000);
        c.due("one is left", p.strike(0), 1);
        c.refused("struck out", UnsupportedOperationException.class, () -> p.strike(0));
        c.due("the other is best", p.sum(0, 0), 3000);
        c.due("place", p.place(0, 0), 2);
        c.due("score stands", p.score(0), 5000);
        c.due("parts stand", p.parts(0), 0);
        c.due("none is left", p.strike(2), 0);
        c.refused("none counts", java.util.NoSuchElementException.class, () -> p.sum(0, 0));
        c.due("the other athlete", p.place(0, 1), 1);
        p.close(0);
        c.refused("closed", UnsupportedOperationException.class, () -> p.strike(1));
    }

    private static void protesting() {
        KickflipPark p = park(2, 1);
        p.start(0, 0);
        p.does(0, 0, '-');
        p.does(0, 1, 'h');
        c.refused("open", UnsupportedOperationException.class, () -> p.protest(0, 0, 1));
        c.refused("open, no place", java.util.NoSuchElementException.class, () -> p.protest(0, 2, 1));
        c.refused("no trick, no place", IndexOutOfBoundsException.class, () -> p.protest(0, 2, 3));
        c.refused("no run", IndexOutOfBoundsException.class, () -> p.protest(1, 0, 1));
        c.refused("place below", java.util.NoSuchElementException.class, () -> p.protest(0, -1, 1));
        // 14, then half of 10 less its 3 tenths, 1.
        c.due("end", p.end(), 18);
        long before = p.checksum();
        // 19, then 10 less 3, as it is no repeat any more.
        c.due("another trick", p.protest(0, 0, 1), 26);
        c.due("worth of it", p.worth(0, 0), 19);
        c.due("worth of the next", p.worth(0, 1), 7);
        c.due("parts", p.parts(0), 26);
        c.due("score", p.score(0), 2600);
        c.due("meanParts", p.meanParts(), 26.0);
        c.due("checksum", p.checksum() - before, 31L);
        c.due("the same fault and feature, a repeat then", p.protest(0, 1, 1), 24);
        c.due("isTrue", p.isTrue(), true);
        p.strike(0);
        c.due("a struck run too", p.protest(0, 0, 2), 35);
        p.close(0);
        c.refused("closed", UnsupportedOperationException.class, () -> p.protest(0, 0, 0));
        KickflipPark q = park(0, 1);
        q.start(0, 0);
        q.does(0, 0, 'f');
        q.end();
        c.due("a fall stays a fall", q.protest(0, 0, 2), 0);
        c.due("share", q.fallShare(), 1.0f);
    }
}
