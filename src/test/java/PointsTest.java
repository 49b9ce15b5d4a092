import java.util.NoSuchElementException;

/** Promises 32 to 36: points, list, listed, hurt, day. */
public final class PointsTest {
    private static final Checks c = new Checks("PointsTest");

    public static void main(String[] args) {
        pointsOfPlaces();
        aging();
        threeBest();
        listing();
        days();
        c.end();
    }

    private static KickflipPark park(int athletes, int events) {
        KickflipPark p = new KickflipPark();
        p.feature('g', 0, 99, 0);
        for (int halves = 0; halves <= 12; halves++) {
            p.trick('n', 'o', 'f', 'u', halves, 0, 0);
        }
        for (int i = 0; i < athletes; i++) {
            p.athlete(i % 4);
        }
        for (int i = 0; i < events; i++) {
            p.event('b', 0, 1);
        }
        return p;
    }

    /** Enters the athletes in the event and lets them take the places in this order. */
    private static void hold(KickflipPark p, int event, int... byPlace) {
        for (int athlete : byPlace) {
            p.enter(event, athlete);
        }
        for (int i = 0; i < byPlace.length; i++) {
            p.start(event, byPlace[i]);
            p.does(12 - i, 0, '-');
            p.end();
        }
        p.close(event);
    }

    private static void pointsOfPlaces() {
        KickflipPark p = park(12, 1);
        c.due("an open event", p.points(0, 3), 0);
        hold(p, 0, 11, 10, 9, 8, 7, 6, 5, 4, 3, 2, 1, 0);
        int[] want = {100, 80, 60, 50, 45, 40, 36, 32, 29, 26, 20, 20};
        for (int place = 1; place <= 12; place++) {
            c.due("place " + place, p.points(0, 12 - place), want[place - 1]);
        }
        c.refused("no event", IndexOutOfBoundsException.class, () -> p.points(1, 0));
        c.refused("no athlete", IndexOutOfBoundsException.class, () -> p.points(0, 12));
        KickflipPark q = park(2, 1);
        hold(q, 0, 1);
        c.due("not entered", q.points(0, 0), 0);
        c.due("entered", q.points(0, 1), 100);
    }

    private static void aging() {
        KickflipPark p = park(4, 6);
        hold(p, 0, 0, 1, 2, 3);
        int[] since = {100, 50, 50, 25, 25};
        for (int event = 1; event <= 5; event++) {
            p.close(event);
            c.due("closed since, void: " + event, p.list(0), since[event - 1]);
        }
        c.due("points stand", p.points(0, 0), 100);
        c.refused("none", IndexOutOfBoundsException.class, () -> p.list(4));
        c.refused("below", IndexOutOfBoundsException.class, () -> p.list(-1));
        KickflipPark q = park(5, 5);
        hold(q, 0, 0, 1, 2, 3, 4);
        hold(q, 1, 0);
        hold(q, 2, 0);
        c.due("45 halved, cut", q.list(4), 22);
        hold(q, 3, 0);
        hold(q, 4, 0);
        c.due("22 halved", q.list(4), 11);
        KickflipPark r = park(1, 3);
        hold(r, 2, 0);
        r.close(0);
        c.due("by closing, not by numbers", r.list(0), 100);
        r.close(1);
        c.due("two since", r.list(0), 50);
    }

    private static void threeBest() {
        KickflipPark p = park(9, 6);
        // Athlete 8 is placed 1, 9, 3, 5, 8, 9: 100, 29, 60, 45, 32, 29; aged 25, 7, 30, 22, 32, 29.
        hold(p, 0, 8);
        hold(p, 1, 0, 1, 2, 3, 4, 5, 6, 7, 8);
        c.due("two", p.list(8), 129);
        hold(p, 2, 0, 1, 8);
        c.due("three, one of them halved", p.list(8), 50 + 29 + 60);
        hold(p, 3, 0, 1, 2, 3, 8);
        c.due("three of four", p.list(8), 50 + 60 + 45);
        hold(p, 4, 0, 1, 2, 3, 4, 5, 6, 8);
        hold(p, 5, 0, 1, 2, 3, 4, 5, 6, 7, 8);
        c.due("the best ones as they are aged", p.list(8), 30 + 32 + 29);
        c.due("five times the first", p.list(0), 100 + 100 + 50);
    }

    private static void listing() {
        KickflipPark p = park(4, 2);
        c.due("all alike, by numbers", order(p), "0123");
        hold(p, 0, 3, 1);
        c.due("higher sums first", order(p), "3102");
        hold(p, 1, 1, 3);
        c.due("like sums by numbers", order(p), "1302");
        c.refused("no place", NoSuchElementException.class, () -> p.listed(4));
        c.refused("below", NoSuchElementException.class, () -> p.listed(-1));
        c.refused("far", NoSuchElementException.class, () -> p.listed(Integer.MIN_VALUE));
    }

    private static String order(KickflipPark p) {
        StringBuilder order = new StringBuilder();
        for (int place = 0; place < 4; place++) {
            order.append(p.listed(place));
        }
        return order.toString();
    }

    private static void days() {
        KickflipPark p = park(2, 1);
        c.due("day 1", p.day(), 1);
        p.enter(0, 1);
        p.start(0, 1);
        for (int i = 0; i < 5; i++) {
            p.does(0, 0, 'f');
        }
        p.end();
        c.due("hurt", p.hurt(1), 5);
        c.due("not hurt", p.hurt(0), 0);
        c.due("day 2", p.day(), 2);
        c.due("a day less", p.hurt(1), 4);
        c.refused("none", IndexOutOfBoundsException.class, () -> p.hurt(2));
        c.refused("below", IndexOutOfBoundsException.class, () -> p.hurt(-1));
    }
}
