import java.util.NoSuchElementException;

/** Promises 29 to 31: hold, round, close; and 14, starter, in later rounds. */
public final class RoundTest {
    private static final Checks c = new Checks("RoundTest");

    public static void main(String[] args) {
        holding();
        rounds();
        ordersOfLaterRounds();
        closing();
        closingWhileHeld();
        scoresToClose();
        c.end();
    }

    /** A gap, tricks i of base 5 i, an event and athletes entered in it. */
    private static KickflipPark park(int edition, int athletes) {
        KickflipPark p = new KickflipPark();
        p.feature('g', 0, 99, 0);
        for (int halves = 0; halves <= 12; halves++) {
            p.trick('n', 'o', 'f', 'u', halves, 0, 0);
        }
        p.event('b', edition, 1);
        for (int i = 0; i < athletes; i++) {
            p.athlete(i % 4);
            p.enter(0, i);
        }
        return p;
    }

    private static void run(KickflipPark p, int athlete, int trick) {
        p.start(0, athlete);
        p.does(trick, 0, '-');
        p.end();
    }

    private static void holding() {
        KickflipPark p = park(0, 2);
        c.refused("no event", IndexOutOfBoundsException.class, () -> p.hold(1, true));
        c.due("not at first", p.hold(0, true), false);
        c.due("held", p.hold(0, true), true);
        c.refused("no run starts", UnsupportedOperationException.class, () -> p.start(0, 0));
        c.due("let go", p.hold(0, false), true);
        c.due("not held", p.hold(0, false), false);
        p.start(0, 0);
        p.hold(0, true);
        c.due("a run that is open goes on", p.does(3, 0, '-'), true);
        c.due("and ends", p.end(), 15);
        c.due("and counts", p.sum(0, 0), 1500);
        p.hold(0, false);
        p.close(0);
        c.refused("closed", UnsupportedOperationException.class, () -> p.hold(0, true));
    }

    private static void rounds() {
        KickflipPark p = park(1, 3);
        Class<UnsupportedOperationException> not = UnsupportedOperationException.class;
        c.refused("no event", IndexOutOfBoundsException.class, () -> p.round(1, 0));
        c.refused("0", IllegalArgumentException.class, () -> p.round(0, 0));
        c.refused("13", IllegalArgumentException.class, () -> p.round(0, 13));
        c.refused("no places", not, () -> p.round(0, 1));
        run(p, 0, 1);
        c.refused("no score", not, () -> p.round(0, 1));
        p.mark(0, 0, 30);
        p.hold(0, true);
        c.refused("held", not, () -> p.round(0, 1));
        p.hold(0, false);
        p.start(0, 1);
        c.refused("a run open", not, () -> p.round(0, 1));
        p.end();
        p.mark(1, 0, 40);
        c.refused("not so many places", not, () -> p.round(0, 3));
        p.event('b', 0, 1);
        p.enter(1, 0);
        p.start(1, 0);
        c.due("a run of another event is open", p.round(0, 1), 2);
        p.end();
        c.due("who goes on", p.starter(0, 0), 1);
        c.refused("who does not", NoSuchElementException.class, () -> p.starter(0, 1));
        c.refused("is not in the round", not, () -> p.start(0, 0));
        c.due("all places stand", p.round(0, 2), 3);
        c.due("back in the round", p.start(0, 0), 3);
        p.end();
        p.strike(3);
        p.close(0);
        c.refused("closed", not, () -> p.round(0, 1));
        c.refused("closed, 13", IllegalArgumentException.class, () -> p.round(0, 13));
    }

    private static void ordersOfLaterRounds() {
        KickflipPark p = park(0, 4);
        for (int athlete = 0; athlete < 4; athlete++) {
            run(p, athlete, athlete == 2 ? 9 : 4 - athlete);
        }
        // By places: 2, 0, 1, 3.
        c.due("round 2", p.round(0, 3), 2);
        c.due("the last one first", p.starter(0, 0) + " " + p.starter(0, 1) + " " + p.starter(0, 2), "1 0 2");
        run(p, 1, 12);
        p.strike(2);
        c.due("as the places were", p.starter(0, 0) + " " + p.starter(0, 1) + " " + p.starter(0, 2), "1 0 2");
        c.refused("fourth", NoSuchElementException.class, () -> p.starter(0, 3));
        c.due("round 3", p.round(0, 2), 3);
        c.due("by the places then", p.starter(0, 0) + " " + p.starter(0, 1), "0 1");
        c.refused("no draw any more", UnsupportedOperationException.class, () -> p.draw(0));
        run(p, 1, 1);
        run(p, 1, 1);
        c.refused("had 2 runs", UnsupportedOperationException.class, () -> p.start(0, 1));
        c.due("isTrue", p.isTrue(), true);
    }

    private static void closing() {
        KickflipPark p = park(0, 2);
        c.refused("no event", IndexOutOfBoundsException.class, () -> p.close(1));
        p.start(0, 0);
        c.refused("a run open", UnsupportedOperationException.class, () -> p.close(0));
        p.end();
        c.due("counts", p.close(0), true);
        c.refused("closed", UnsupportedOperationException.class, () -> p.close(0));
        c.due("places stand", p.place(0, 0), 1);
        KickflipPark q = park(0, 1);
        c.due("void without a run", q.close(0), false);
        KickflipPark r = park(0, 1);
        run(r, 0, 1);
        r.strike(0);
        c.due("void without a run that counts", r.close(0), false);
        c.due("no points", r.points(0, 0), 0);
        KickflipPark s = park(0, 1);
        s.event('b', 0, 1);
        s.start(0, 0);
        c.due("a run of another event is open", s.close(1), false);
    }

    private static void closingWhileHeld() {
        KickflipPark p = park(0, 2);
        run(p, 0, 1);
        run(p, 1, 2);
        p.round(0, 2);
        run(p, 0, 9);
        p.hold(0, true);
        c.due("before", p.place(0, 0), 1);
        c.due("counts by round 1", p.close(0), true);
        c.due("round 2 is lost", p.sum(0, 0), 500);
        c.due("place", p.place(0, 0), 2);
        c.due("heat", p.heat(0, 0, 1), 1);
        c.due("points", p.points(0, 1), 100);
        c.due("isTrue", p.isTrue(), true);
        KickflipPark q = park(0, 2);
        run(q, 0, 1);
        q.round(0, 1);
        run(q, 0, 9);
        run(q, 0, 8);
        q.strike(2);
        q.hold(0, true);
        c.due("counts by round 2", q.close(0), true);
        c.due("which is whole", q.sum(0, 0), 4500);
        KickflipPark r = park(0, 2);
        run(r, 0, 1);
        run(r, 1, 2);
        r.strike(1);
        r.hold(0, true);
        c.due("a struck run is an ended one", r.close(0), true);
        c.due("of the other", r.sum(0, 0), 500);
        c.refused("but does not count", NoSuchElementException.class, () -> r.sum(0, 1));
        KickflipPark s = park(0, 2);
        run(s, 0, 1);
        s.hold(0, true);
        c.due("void", s.close(0), false);
        c.refused("no run counts", NoSuchElementException.class, () -> s.sum(0, 0));
        c.due("its score stands", s.score(0), 500);
        KickflipPark t = park(0, 2);
        run(t, 0, 1);
        t.hold(0, true);
        t.hold(0, false);
        c.due("let go again", t.close(0), true);
        c.due("all count", t.sum(0, 0), 500);
    }

    private static void scoresToClose() {
        KickflipPark p = park(1, 2);
        run(p, 0, 1);
        run(p, 1, 1);
        p.mark(0, 0, 10);
        c.refused("no score", UnsupportedOperationException.class, () -> p.close(0));
        p.mark(1, 0, 20);
        p.round(0, 2);
        run(p, 0, 1);
        c.refused("no score in round 2", UnsupportedOperationException.class, () -> p.close(0));
        p.hold(0, true);
        c.due("a run that is lost needs none", p.close(0), true);
        c.due("round 1", p.sum(0, 0), 1000);
        KickflipPark q = park(1, 1);
        run(q, 0, 1);
        q.hold(0, true);
        c.refused("a run that counts needs one, held too", UnsupportedOperationException.class, () -> q.close(0));
        c.due("refused, nothing is lost", q.mark(0, 0, 70), 1);
        c.due("held still", q.hold(0, false), true);
        c.due("sum", q.sum(0, 0), 7000);
    }
}
