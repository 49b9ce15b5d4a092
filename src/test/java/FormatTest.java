import java.util.NoSuchElementException;

/** Promises 26 to 28: sum, place, heat. */
public final class FormatTest {
    private static final Checks c = new Checks("FormatTest");

    public static void main(String[] args) {
        sums();
        likeTricks();
        bestRunLeftOut();
        scoresAreNeeded();
        places();
        likeSums();
        heats();
        c.end();
    }

    /** A gap 0, a rail 1 and a landing 2, with lines everywhere; trick i has i half turns, a base of 5 i. */
    private static KickflipPark park(char format, int edition, int athletes) {
        KickflipPark p = new KickflipPark();
        for (int i = 0; i < 3; i++) {
            p.feature("grd".charAt(i), 0, 99, 0);
            for (int j = 0; j < i; j++) {
                p.line(i, j, 0);
                p.line(j, i, 0);
            }
        }
        for (int halves = 0; halves <= 12; halves++) {
            p.trick('n', 'o', 'f', 'u', halves, 0, 0);
        }
        p.event(format, edition, 1);
        for (int i = 0; i < athletes; i++) {
            p.athlete(i % 4);
            p.enter(0, i);
        }
        return p;
    }

    /** Each telling is a trick as a letter from 'a', a feature and a fault. */
    private static void run(KickflipPark p, int athlete, String... tellings) {
        p.start(0, athlete);
        for (String told : tellings) {
            p.does(told.charAt(0) - 'a', told.charAt(1) - '0', told.charAt(2));
        }
        p.end();
    }

    private static void sums() {
        c.due("best", threeRuns('b'), 6000);
        // The runs are worth 60 and 0, as the fall is repeated; 50; 40 and 14.
        c.due("best and tricks", threeRuns('s'), 6000 + 100 * (50 + 40));
        c.due("three tricks", threeRuns('j'), 100 * (60 + 50 + 40));
        KickflipPark p = park('b', 0, 2);
        c.refused("no event", IndexOutOfBoundsException.class, () -> p.sum(1, 0));
        c.refused("no athlete", IndexOutOfBoundsException.class, () -> p.sum(0, 2));
        c.refused("no run", NoSuchElementException.class, () -> p.sum(0, 0));
        p.start(0, 0);
        c.refused("a run open", NoSuchElementException.class, () -> p.sum(0, 0));
        p.end();
        c.due("an empty run", p.sum(0, 0), 0);
        KickflipPark q = park('s', 0, 1);
        run(q, 0, "e0-");
        c.due("without others", q.sum(0, 0), 2000);
        c.due("isTrue", q.isTrue(), true);
    }

    private static int threeRuns(char format) {
        KickflipPark p = park(format, 0, 1);
        run(p, 0, "m0-", "f1f", "f0-");
        run(p, 0, "k0-");
        p.round(0, 1);
        run(p, 0, "i0-", "d1h");
        c.due("isTrue " + format, p.isTrue(), true);
        return p.sum(0, 0);
    }

    private static void likeTricks() {
        KickflipPark p = park('j', 0, 1);
        // Trick e: 20 on a gap, 24 on a rail, 10 on a landing; the best alone is taken, as no repeat.
        run(p, 0, "e2-", "e1-", "e0-");
        c.due("best of like ones", p.sum(0, 0), 2400);
        run(p, 0, "e1h", "c0-", "b1-");
        c.due("and three", p.sum(0, 0), 2400 + 1000 + 900);
        KickflipPark q = park('j', 4, 1);
        run(q, 0, "e2-", "e1-", "e0-");
        c.due("like ones on other features too", q.sum(0, 0), 2400);
        KickflipPark r = park('j', 0, 1);
        run(r, 0, "e1h", "c0f", "d0r");
        // 24 less 7, and 15 less 3.
        c.due("with faults", r.sum(0, 0), 1700 + 1200);
        KickflipPark s = park('j', 0, 1);
        run(s, 0, "m0-", "l1-", "k0-", "j1-");
        c.due("no more than three", s.sum(0, 0), 6000 + 5900 + 5000);
    }

    private static void bestRunLeftOut() {
        KickflipPark p = park('s', 1, 1);
        run(p, 0, "m0-");
        run(p, 0, "l0-", "k1-", "b0-");
        p.mark(0, 0, 50);
        p.mark(1, 0, 50);
        c.due("of like ones the earliest is left out", p.sum(0, 0), 5000 + 5500 + 5400);
        p.mark(1, 0, 51);
        c.due("the better one is left out", p.sum(0, 0), 5100 + 6000);
        p.strike(1);
        c.due("struck ones have no tricks", p.sum(0, 0), 5000);
        KickflipPark q = park('s', 0, 1);
        run(q, 0, "m0-", "l1f");
        run(q, 0, "m0h", "l1h");
        // 60 less 18 and 59 less 17 are more than 60, so that the first run is the other one.
        c.due("a trick of the best run again", q.sum(0, 0), 8400 + 6000);
        c.due("isTrue", p.isTrue() && q.isTrue(), true);
    }

    private static void scoresAreNeeded() {
        KickflipPark p = park('j', 1, 3);
        run(p, 0, "m0-");
        run(p, 1, "l0-");
        p.mark(0, 0, 50);
        Class<UnsupportedOperationException> not = UnsupportedOperationException.class;
        c.refused("sum", not, () -> p.sum(0, 0));
        c.refused("place", not, () -> p.place(0, 0));
        c.refused("heat", not, () -> p.heat(0, 0, 1));
        c.refused("no run first", NoSuchElementException.class, () -> p.sum(0, 2));
        c.refused("no run first, place", NoSuchElementException.class, () -> p.place(0, 2));
        c.refused("no run first, heat", NoSuchElementException.class, () -> p.heat(0, 0, 2));
        p.strike(1);
        c.due("struck ones need none", p.sum(0, 0), 6000);
        p.start(0, 2);
        c.due("open ones need none", p.place(0, 0), 1);
        c.due("isTrue", p.isTrue(), true);
    }

    private static void places() {
        KickflipPark p = park('b', 0, 4);
        run(p, 2, "e0-");
        run(p, 0, "f0-");
        run(p, 3, "c0-");
        c.due("first", p.place(0, 0), 1);
        c.due("second", p.place(0, 2), 2);
        c.due("third", p.place(0, 3), 3);
        c.refused("no run", NoSuchElementException.class, () -> p.place(0, 1));
        c.refused("no event", IndexOutOfBoundsException.class, () -> p.place(1, 0));
        c.refused("no athlete", IndexOutOfBoundsException.class, () -> p.place(0, -1));
        run(p, 3, "m0-");
        c.due("from the last to the first", p.place(0, 3), 1);
        c.due("the others behind", p.place(0, 2), 3);
    }

    private static void likeSums() {
        KickflipPark p = park('j', 0, 3);
        run(p, 2, "c1-");
        run(p, 1, "e0-");
        run(p, 1, "c1-");
        run(p, 2, "e0-");
        run(p, 0, "e0-", "c1-");
        c.due("sums", p.sum(0, 0) + " " + p.sum(0, 1) + " " + p.sum(0, 2), "3400 3400 3400");
        c.due("by the best score", p.place(0, 0), 1);
        c.due("by the first run", p.place(0, 2), 2);
        c.due("the last", p.place(0, 1), 3);
        KickflipPark q = park('b', 0, 2);
        run(q, 1, "e0-");
        run(q, 0, "e0-");
        run(q, 1, "e0-");
        c.due("the first run", q.place(0, 1), 1);
        q.strike(0);
        c.due("the first run that counts", q.place(0, 1), 2);
        c.due("isTrue", p.isTrue() && q.isTrue(), true);
    }

    private static void heats() {
        KickflipPark p = park('b', 0, 4);
        run(p, 0, "m0-");
        run(p, 1, "e0-");
        run(p, 0, "c0-");
        c.due("by the last runs", p.heat(0, 0, 1), 1);
        c.due("the other way round", p.heat(0, 1, 0), 1);
        run(p, 2, "c0-");
        c.due("of like ones the one placed better", p.heat(0, 2, 0), 0);
        c.due("the other way round", p.heat(0, 0, 2), 0);
        p.strike(2);
        c.due("the last one that counts", p.heat(0, 0, 1), 0);
        c.refused("no event", IndexOutOfBoundsException.class, () -> p.heat(1, 0, 0));
        c.refused("no athlete", IndexOutOfBoundsException.class, () -> p.heat(0, 4, 4));
        c.refused("no other", IndexOutOfBoundsException.class, () -> p.heat(0, 0, 4));
        c.refused("both the same", IllegalArgumentException.class, () -> p.heat(0, 3, 3));
        c.refused("no run", NoSuchElementException.class, () -> p.heat(0, 3, 0));
        c.refused("the other has no run", NoSuchElementException.class, () -> p.heat(0, 0, 3));
    }
}
