/** Promises 1 to 4: a new object, feature, line, build. */
public final class CourseTest {
    private static final Checks c = new Checks("CourseTest");

    public static void main(String[] args) {
        newObject();
        features();
        lines();
        building();
        c.end();
    }

    private static void newObject() {
        KickflipPark p = new KickflipPark();
        c.due("tricks", p.tricks(), 0);
        c.due("checksum", p.checksum(), 7);
        c.due("isTrue", p.isTrue(), true);
        c.refused("no feature", IndexOutOfBoundsException.class, () -> p.build(0, 0, 0, 0));
        c.refused("no athlete", IndexOutOfBoundsException.class, () -> p.list(0));
        c.refused("no event", IndexOutOfBoundsException.class, () -> p.starter(0, 0));
        c.refused("no run", IndexOutOfBoundsException.class, () -> p.parts(0));
        c.refused("no run open", IllegalStateException.class, p::speed);
        c.refused("nobody listed", java.util.NoSuchElementException.class, () -> p.listed(0));
        c.due("z", p.seed(5), 1);
        c.due("quota", p.quota(1), 3);
        c.due("day", p.day(), 1);
    }

    private static void features() {
        KickflipPark p = new KickflipPark();
        Class<IllegalArgumentException> illegal = IllegalArgumentException.class;
        c.refused("kind R", illegal, () -> p.feature('R', 0, 1, 0));
        c.refused("least below", illegal, () -> p.feature('r', -1, 1, 0));
        c.refused("greatest above", illegal, () -> p.feature('r', 0, 100, 0));
        c.refused("both above", illegal, () -> p.feature('r', 100, 100, 0));
        c.refused("greatest less", illegal, () -> p.feature('r', 2, 1, 0));
        c.refused("gain below", illegal, () -> p.feature('r', 0, 1, -21));
        c.refused("gain above", illegal, () -> p.feature('r', 0, 1, 21));
        String kinds = "rgldrgldrg";
        for (int i = 0; i < 10; i++) {
            c.due("feature " + i, p.feature(kinds.charAt(i), i == 0 ? 0 : 99, 99, i == 0 ? -20 : 20), i);
        }
        c.refused("no eleventh", IndexOutOfBoundsException.class, () -> p.build(10, 0, 1, 0));
        c.due("the tenth", p.build(9, 0, 1, 0), 99);
        c.refused("an eleventh", IllegalStateException.class, () -> p.feature('r', 0, 1, 0));
        c.refused("an eleventh that is wrong", illegal, () -> p.feature('x', 0, 1, 0));
    }

    private static void lines() {
        KickflipPark p = new KickflipPark();
        p.feature('r', 0, 99, 0);
        p.feature('g', 0, 99, 0);
        Class<IndexOutOfBoundsException> none = IndexOutOfBoundsException.class;
        Class<IllegalArgumentException> illegal = IllegalArgumentException.class;
        c.refused("from none", none, () -> p.line(2, 0, 0));
        c.refused("from below", none, () -> p.line(-1, 0, 0));
        c.refused("to none, loss wrong", none, () -> p.line(0, 2, 21));
        c.refused("to far", none, () -> p.line(0, Integer.MAX_VALUE, 0));
        c.refused("to itself", illegal, () -> p.line(1, 1, 0));
        c.refused("loss above", illegal, () -> p.line(0, 1, 21));
        c.refused("loss below", illegal, () -> p.line(0, 1, -1));
        c.due("first", p.line(0, 1, 20), -1);
        c.due("in place", p.line(0, 1, 0), 20);
        c.due("in place again", p.line(0, 1, 7), 0);
        c.due("the other way", p.line(1, 0, 3), -1);
        p.trick('n', 'o', 'f', 'u', 1, 0, 0);
        p.athlete(0);
        p.event('b', 0, 1);
        p.enter(0, 0);
        p.start(0, 0);
        p.does(0, 0, '-');
        p.does(0, 1, '-');
        c.due("the later loss", p.speed(), 23);
        p.does(0, 0, '-');
        c.due("the loss back", p.speed(), 20);
    }

    private static void building() {
        KickflipPark p = new KickflipPark();
        p.feature('r', 10, 60, 2);
        Class<IllegalArgumentException> illegal = IllegalArgumentException.class;
        c.refused("none", IndexOutOfBoundsException.class, () -> p.build(1, 5, 4, 0));
        c.refused("below", IndexOutOfBoundsException.class, () -> p.build(-1, 0, 4, 0));
        c.refused("greatest less", illegal, () -> p.build(0, 5, 4, 0));
        c.refused("gain above", illegal, () -> p.build(0, 5, 5, 21));
        c.due("least before", p.build(0, 31, 60, -20), 10);
        c.due("least then", p.build(0, 30, 30, -20), 31);
        p.trick('n', 'o', 'f', 'u', 1, 0, 0);
        p.athlete(0);
        p.event('b', 0, 1);
        p.enter(0, 0);
        p.start(0, 0);
        c.refused("a run open", IllegalStateException.class, () -> p.build(0, 0, 0, 0));
        c.refused("a run open, wrong number", illegal, () -> p.build(0, 0, 100, 0));
        c.due("cleared as built", p.does(0, 0, '-'), true);
        c.due("gain as built", p.speed(), 10);
        p.end();
        c.due("between runs", p.build(0, 31, 31, 0), 30);
        p.start(0, 0);
        c.due("too slow now", p.does(0, 0, '-'), false);
    }
}
