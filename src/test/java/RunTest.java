/** Promises 15 to 20: start, does, speed, end, worth, parts; and 35, hurt, as it keeps from starting. */
public final class RunTest {
    private static final Checks c = new Checks("RunTest");

    public static void main(String[] args) {
        starting();
        doing();
        speeds();
        falls();
        worthOnFeatures();
        repeats();
        fullRun();
        sixtyRuns();
        injuries();
        c.end();
    }

    /** Two rails with lines both ways, gain 2, cleared from 10 to 60; tricks 0 and 1 of base 10 and 43. */
    private static KickflipPark park(int edition) {
        KickflipPark p = new KickflipPark();
        p.feature('r', 10, 60, 2);
        p.feature('r', 10, 60, 2);
        p.line(0, 1, 3);
        p.line(1, 0, 0);
        p.trick('n', 'o', 'f', 'u', 2, 0, 0);
        p.trick('s', 'o', 'f', 'c', 4, 2, 3);
        p.athlete(0);
        p.athlete(1);
        p.event('b', edition, 1);
        p.enter(0, 0);
        return p;
    }

    private static void starting() {
        KickflipPark p = park(0);
        Class<UnsupportedOperationException> not = UnsupportedOperationException.class;
        c.refused("no event", IndexOutOfBoundsException.class, () -> p.start(1, 0));
        c.refused("no athlete", IndexOutOfBoundsException.class, () -> p.start(0, 2));
        c.refused("not entered", not, () -> p.start(0, 1));
        p.hold(0, true);
        c.refused("held", not, () -> p.start(0, 0));
        p.hold(0, false);
        c.due("first", p.start(0, 0), 0);
        c.refused("a run open", IllegalStateException.class, () -> p.start(0, 0));
        c.refused("a run open, not entered", not, () -> p.start(0, 1));
        p.end();
        c.due("second", p.start(0, 0), 1);
        p.end();
        p.strike(0);
        c.refused("had 2 runs", not, () -> p.start(0, 0));
        p.round(0, 1);
        c.due("in another round", p.start(0, 0), 2);
        p.event('b', 0, 1);
        p.enter(1, 1);
        c.refused("open in another event", IllegalStateException.class, () -> p.start(1, 1));
        p.end();
        p.close(0);
        c.refused("closed", not, () -> p.start(0, 0));
        c.due("not closed", p.start(1, 1), 3);
    }

    private static void doing() {
        KickflipPark p = park(0);
        c.refused("no run open", IllegalStateException.class, () -> p.does(0, 0, '-'));
        c.refused("no run open, no trick", IndexOutOfBoundsException.class, () -> p.does(2, 0, 'x'));
        c.refused("no run open, no fault", IllegalArgumentException.class, () -> p.does(0, 0, 'x'));
        p.start(0, 0);
        c.refused("no feature", IndexOutOfBoundsException.class, () -> p.does(0, 2, '-'));
        c.refused("trick below", IndexOutOfBoundsException.class, () -> p.does(-1, 0, '-'));
        c.refused("fault", IllegalArgumentException.class, () -> p.does(0, 0, 'F'));
        c.due("first anywhere", p.does(0, 1, '-'), true);
        c.refused("no line to itself", UnsupportedOperationException.class, () -> p.does(0, 1, 'f'));
        c.due("by a line", p.does(0, 0, 'h'), true);
        c.due("by another line", p.does(0, 1, 'r'), true);
        c.due("a told fall", p.does(0, 0, 'f'), false);
        c.due("anywhere behind a fall", p.does(0, 0, '-'), true);
        c.due("end", p.end(), 14);
        c.refused("ended", IllegalStateException.class, () -> p.does(0, 0, '-'));
        KickflipPark q = park(0);
        q.feature('r', 0, 99, 0);
        q.start(0, 0);
        q.does(0, 0, '-');
        c.refused("no line leads there", UnsupportedOperationException.class, () -> q.does(0, 2, '-'));
        q.line(0, 2, 0);
        c.due("a line leads there", q.does(0, 2, '-'), true);
        c.refused("no line leads back", UnsupportedOperationException.class, () -> q.does(0, 0, '-'));
    }

    private static void speeds() {
        KickflipPark p = new KickflipPark();
        p.feature('r', 0, 99, 20);
        p.feature('r', 0, 99, 20);
        p.feature('g', 0, 99, -20);
        p.feature('g', 0, 99, -20);
        p.line(0, 1, 0);
        p.line(1, 0, 0);
        p.line(2, 3, 5);
        p.line(3, 2, 20);
        p.trick('n', 'o', 'f', 'u', 2, 0, 0);
        p.athlete(0);
        p.event('b', 0, 1);
        p.enter(0, 0);
        c.refused("no run open", IllegalStateException.class, p::speed);
        p.start(0, 0);
        c.due("at first", p.speed(), 30);
        int[] up = {50, 70, 90, 99, 99};
        for (int i = 0; i < up.length; i++) {
            p.does(0, i % 2, '-');
            c.due("held within 99", p.speed(), up[i]);
        }
        p.end();
        p.start(0, 0);
        p.does(0, 2, '-');
        c.due("gain below 0", p.speed(), 10);
        p.does(0, 3, '-');
        c.due("held within 0", p.speed(), 0);
    }

    private static void falls() {
        KickflipPark p = new KickflipPark();
        p.feature('r', 30, 30, 5);
        p.feature('g', 34, 34, -20);
        p.feature('l', 0, 0, 0);
        p.feature('d', 31, 99, 7);
        p.feature('d', 0, 29, 7);
        p.line(0, 1, 1);
        p.line(1, 2, 20);
        p.trick('n', 'o', 'f', 'u', 2, 0, 0);
        p.athlete(0);
        p.event('b', 0, 1);
        p.enter(0, 0);
        p.start(0, 0);
        c.due("at the least and the greatest", p.does(0, 0, '-'), true);
        c.due("the loss counts there", p.does(0, 1, 'h'), true);
        c.due("speed held within 0 there", p.does(0, 2, '-'), true);
        c.due("speed", p.speed(), 0);
        p.end();
        p.start(0, 0);
        c.due("too slow", p.does(0, 3, '-'), false);
        c.due("speed behind a fall, no gain", p.speed(), 30);
        c.due("too fast", p.does(0, 4, 'h'), false);
        c.due("speed behind a fall again", p.speed(), 30);
        c.due("parts", p.parts(1), 0);
    }

    private static void worthOnFeatures() {
        KickflipPark p = new KickflipPark();
        for (int i = 0; i < 4; i++) {
            p.feature("rgld".charAt(i), 0, 99, 0);
            for (int j = 0; j < i; j++) {
                p.line(i, j, 0);
                p.line(j, i, 0);
            }
        }
        int[] halves = {3, 5, 7, 9};
        for (int halfTurns : halves) {
            p.trick('n', 'o', 'f', 'u', halfTurns, 0, 0);
        }
        p.athlete(0);
        p.event('b', 0, 1);
        p.enter(0, 0);
        p.start(0, 0);
        // Bases 15, 25, 35, 45: on r 19, g 25, l 37, d 22.
        for (int i = 0; i < 4; i++) {
            p.does(i, i, '-');
        }
        c.due("rail", p.worth(0, 0), 19);
        c.due("gap", p.worth(0, 1), 25);
        c.due("lip", p.worth(0, 2), 37);
        c.due("landing, cut", p.worth(0, 3), 22);
        c.due("parts of an open run", p.parts(0), 103);
        c.due("end", p.end(), 103);
        p.start(0, 0);
        // 3 tenths of 19 are 5, of 25 are 7; 2 tenths of 37 are 7, of 22 are 4.
        p.does(0, 0, 'h');
        p.does(1, 1, 'h');
        p.does(2, 2, 'r');
        p.does(3, 3, 'r');
        c.due("hand down", p.worth(1, 0), 14);
        c.due("hand down, cut", p.worth(1, 1), 18);
        c.due("revert", p.worth(1, 2), 30);
        c.due("revert, cut", p.worth(1, 3), 18);
        p.does(1, 0, 'f');
        c.due("fall", p.worth(1, 4), 0);
        c.due("end", p.end(), 80);
        c.refused("no run", IndexOutOfBoundsException.class, () -> p.worth(2, 0));
        c.refused("run below", IndexOutOfBoundsException.class, () -> p.parts(-1));
        c.refused("no parts", IndexOutOfBoundsException.class, () -> p.parts(60));
        c.refused("no place", java.util.NoSuchElementException.class, () -> p.worth(0, 4));
        c.refused("place below", java.util.NoSuchElementException.class, () -> p.worth(0, -1));
        c.refused("place far", java.util.NoSuchElementException.class, () -> p.worth(0, 10));
    }

    private static void repeats() {
        // Trick 1 of base 43 is worth 47 on a rail; half of it 23.
        c.due("nothing", worths(0), "47 0 0 0 0");
        c.due("half, cut, then the fault", worths(2), "47 23 17 0 23");
        c.due("by feature: nothing", worths(4), "47 47 0 0 0");
        c.due("by feature: half", worths(6), "47 47 17 0 23");
        c.due("by sight: nothing", worths(1), worths(0));
        c.due("by sight: half", worths(3), worths(2));
        c.due("by sight and feature: nothing", worths(5), worths(4));
        c.due("by sight and feature: half", worths(7), worths(6));
        KickflipPark p = park(2);
        p.start(0, 0);
        p.does(1, 0, 'f');
        p.does(1, 0, '-');
        c.due("a fall is repeated too", p.worth(0, 1), 23);
    }

    private static String worths(int edition) {
        KickflipPark p = park(edition);
        p.start(0, 0);
        p.does(1, 0, '-');
        p.does(1, 1, '-');
        p.does(1, 0, 'h');
        p.does(1, 1, 'f');
        p.does(1, 1, '-');
        StringBuilder worths = new StringBuilder();
        for (int place = 0; place < 5; place++) {
            worths.append(place == 0 ? "" : " ").append(p.worth(0, place));
        }
        return worths.toString();
    }

    private static void fullRun() {
        KickflipPark p = park(0);
        p.start(0, 0);
        for (int i = 0; i < 10; i++) {
            c.due("trick " + i, p.does(0, i % 2, '-'), true);
        }
        c.refused("an eleventh", IllegalStateException.class, () -> p.does(0, 0, '-'));
        c.refused("an eleventh without a line", IllegalStateException.class, () -> p.does(0, 1, '-'));
        c.due("the tenth", p.worth(0, 9), 0);
        c.due("end", p.end(), 14);
        c.refused("ended", IllegalStateException.class, p::end);
    }

    private static void sixtyRuns() {
        KickflipPark p = park(0);
        for (int i = 0; i < 60; i++) {
            if (i > 0 && i % 2 == 0) {
                p.round(0, 1);
            }
            c.due("run " + i, p.start(0, 0), i);
            c.due("end " + i, p.end(), 0);
        }
        p.round(0, 1);
        c.refused("a further one", IllegalStateException.class, () -> p.start(0, 0));
        c.refused("a further one, not in the round", UnsupportedOperationException.class, () -> p.start(0, 1));
    }

    private static void injuries() {
        KickflipPark p = park(0);
        p.event('b', 0, 1);
        p.enter(1, 0);
        p.start(0, 0);
        p.does(0, 0, 'f');
        p.does(0, 0, 'f');
        c.due("two falls", p.hurt(0), 0);
        p.end();
        p.start(1, 0);
        p.does(0, 0, 'f');
        p.does(0, 0, 'f');
        c.due("two falls in another event", p.hurt(0), 0);
        p.does(0, 0, 'f');
        c.due("three falls", p.hurt(0), 3);
        p.does(0, 0, 'f');
        c.due("four falls", p.hurt(0), 4);
        c.due("a run goes on", p.does(0, 0, '-'), true);
        p.end();
        c.refused("is hurt", UnsupportedOperationException.class, () -> p.start(0, 0));
        p.day();
        c.due("a day less", p.hurt(0), 3);
        for (int i = 0; i < 3; i++) {
            c.refused("is hurt still", UnsupportedOperationException.class, () -> p.start(0, 0));
            p.day();
        }
        c.due("no day left", p.hurt(0), 0);
        p.day();
        c.due("never below", p.hurt(0), 0);
        c.due("starts again", p.start(0, 0), 2);
        p.does(0, 0, 'f');
        c.due("the third over two runs", p.hurt(0), 3);
        c.due("nobody else", p.hurt(1), 0);
        c.refused("none", IndexOutOfBoundsException.class, () -> p.hurt(2));
        daysLeftAreMore();
    }

    private static void daysLeftAreMore() {
        KickflipPark p = park(0);
        p.event('b', 0, 1);
        p.enter(1, 0);
        p.start(1, 0);
        p.does(0, 0, 'f');
        p.does(0, 0, 'f');
        p.end();
        p.start(0, 0);
        for (int i = 0; i < 8; i++) {
            p.does(0, 0, 'f');
        }
        p.end();
        c.due("eight falls", p.hurt(0), 8);
        for (int i = 0; i < 8; i++) {
            p.day();
        }
        p.start(0, 0);
        p.does(0, 0, 'f');
        c.due("nine falls", p.hurt(0), 9);
        p.day();
        p.day();
        p.does(0, 0, 'f');
        c.due("ten falls", p.hurt(0), 10);
    }
}
