/** Promises 9 to 14 and 39: athlete, quota, event, enter, draw, starter, seed. */
public final class EntryTest {
    private static final Checks c = new Checks("EntryTest");

    public static void main(String[] args) {
        athletes();
        quotas();
        events();
        entering();
        drawing();
        drawingOfEach();
        seeds();
        c.end();
    }

    private static void athletes() {
        KickflipPark p = new KickflipPark();
        c.refused("nation 4", IllegalArgumentException.class, () -> p.athlete(4));
        c.refused("nation -1", IllegalArgumentException.class, () -> p.athlete(-1));
        for (int i = 0; i < 12; i++) {
            c.due("athlete " + i, p.athlete(i % 4), i);
        }
        c.refused("no thirteenth", IndexOutOfBoundsException.class, () -> p.list(12));
        c.due("the twelfth", p.list(11), 0);
        c.refused("a thirteenth", IllegalStateException.class, () -> p.athlete(0));
        c.refused("a thirteenth that is wrong", IllegalArgumentException.class, () -> p.athlete(4));
    }

    private static void quotas() {
        KickflipPark p = new KickflipPark();
        c.refused("0", IllegalArgumentException.class, () -> p.quota(0));
        c.refused("5", IllegalArgumentException.class, () -> p.quota(5));
        c.due("3 at first", p.quota(1), 3);
        c.due("1 then", p.quota(4), 1);
        c.due("4 then", p.quota(4), 4);
    }

    private static void events() {
        KickflipPark p = new KickflipPark();
        Class<IllegalArgumentException> illegal = IllegalArgumentException.class;
        c.refused("format", illegal, () -> p.event('B', 0, 1));
        c.refused("edition above", illegal, () -> p.event('b', 8, 1));
        c.refused("edition below", illegal, () -> p.event('b', -1, 1));
        c.refused("no judges", illegal, () -> p.event('b', 0, 0));
        c.refused("6 judges", illegal, () -> p.event('b', 0, 6));
        for (int i = 0; i < 6; i++) {
            c.due("event " + i, p.event("bsj".charAt(i % 3), i + 2, i % 5 + 1), i);
        }
        c.refused("no seventh", IndexOutOfBoundsException.class, () -> p.starter(6, 0));
        c.refused("nobody in the sixth", java.util.NoSuchElementException.class, () -> p.starter(5, 0));
        c.refused("a seventh", IllegalStateException.class, () -> p.event('b', 0, 1));
        c.refused("a seventh that is wrong", illegal, () -> p.event('b', 0, 6));
    }

    private static void entering() {
        KickflipPark p = new KickflipPark();
        for (int i = 0; i < 5; i++) {
            p.athlete(1);
        }
        p.athlete(2);
        p.event('b', 0, 1);
        p.event('b', 0, 1);
        Class<UnsupportedOperationException> not = UnsupportedOperationException.class;
        c.refused("no event", IndexOutOfBoundsException.class, () -> p.enter(2, 0));
        c.refused("no athlete", IndexOutOfBoundsException.class, () -> p.enter(0, 6));
        c.refused("below", IndexOutOfBoundsException.class, () -> p.enter(0, -1));
        c.due("one", p.enter(0, 4), 1);
        c.refused("entered already", not, () -> p.enter(0, 4));
        c.due("two", p.enter(0, 2), 2);
        c.due("three", p.enter(0, 0), 3);
        c.refused("the quota", not, () -> p.enter(0, 1));
        c.due("of another nation", p.enter(0, 5), 4);
        c.due("in another event", p.enter(1, 1), 1);
        p.quota(4);
        c.due("a greater quota", p.enter(0, 1), 5);
        p.quota(1);
        c.refused("a smaller quota", not, () -> p.enter(0, 3));
        p.quota(4);
        p.start(1, 1);
        c.refused("has a run", not, () -> p.enter(1, 2));
        p.end();
        p.strike(0);
        c.refused("has a run that was struck", not, () -> p.enter(1, 2));
        p.hold(0, true);
        c.refused("four of the nation", not, () -> p.enter(0, 3));
        p.close(0);
        c.refused("closed", not, () -> p.enter(0, 3));
    }

    private static void drawing() {
        KickflipPark p = new KickflipPark();
        for (int i = 0; i < 5; i++) {
            p.athlete(i % 4);
        }
        p.event('b', 0, 1);
        Class<UnsupportedOperationException> not = UnsupportedOperationException.class;
        c.refused("no event", IndexOutOfBoundsException.class, () -> p.draw(1));
        c.refused("nobody", not, () -> p.draw(0));
        c.refused("no event to start in", IndexOutOfBoundsException.class, () -> p.starter(-1, 0));
        c.refused("nobody starts", java.util.NoSuchElementException.class, () -> p.starter(0, 0));
        for (int i = 3; i >= 0; i--) {
            p.enter(0, i);
        }
        c.due("by numbers", order(p, 4), "0123");
        // z: 48271, 182605794, 1291394886; modulo 4, 3, 2: 3, 0, 0; the places 3, 2, 1 change with these.
        c.due("drawn", p.draw(0), 1);
        c.due("drawn order", order(p, 4), "1203");
        c.due("z goes on", p.seed(1), 1291394886);
        p.draw(0);
        c.due("drawn from the numbers anew", order(p, 4), "1203");
        p.enter(0, 4);
        c.due("gone by one more", order(p, 5), "01234");
        c.refused("place 5", java.util.NoSuchElementException.class, () -> p.starter(0, 5));
        c.refused("place -1", java.util.NoSuchElementException.class, () -> p.starter(0, -1));
        c.refused("place far", java.util.NoSuchElementException.class, () -> p.starter(0, Integer.MAX_VALUE));
        int z = p.seed(1);
        c.refused("refused enter keeps the order", not, () -> p.enter(0, 4));
        p.start(0, 2);
        c.refused("a run open", not, () -> p.draw(0));
        p.end();
        c.refused("has a run", not, () -> p.draw(0));
        c.due("a refused draw leaves z", p.seed(z), 1);
        KickflipPark q = new KickflipPark();
        q.athlete(0);
        q.event('b', 0, 1);
        q.enter(0, 0);
        c.due("one athlete is first", q.draw(0), 0);
        c.due("one athlete leaves z", q.seed(5), 1);
        q.draw(0);
        c.due("a z that was told, too", q.seed(1), 5);
        q.close(0);
        c.refused("closed", not, () -> q.draw(0));
    }

    // The order and z behind a draw of 1 to 12 athletes from z = 1, and of one more draw behind it from the z that stands.
    private static void drawingOfEach() {
        String[] first = {
            "0", "01", "201", "1203", "34021", "035241",
            "5234106", "53412607", "087361524", "0725394861", "0a298715643", "ab2395014687"
        };
        String[] second = {
            "0", "10", "210", "0231", "04231", "032415",
            "6243150", "26037541", "430168275", "8024563791", "01624a95378", "510472a3698b"
        };
        int[] behind = {
            1, 48271, 182605794, 1291394886, 1914720637, 2078669041,
            407355683, 1105902161, 854716505, 564586691, 1596680831, 192302371
        };
        for (int many = 1; many <= 12; many++) {
            KickflipPark p = new KickflipPark();
            p.event('b', 0, 1);
            p.event('b', 0, 1);
            for (int i = 0; i < many; i++) {
                p.athlete(i % 4);
                p.enter(0, i);
                p.enter(1, i);
            }
            c.due("first of " + many, p.draw(0), Character.digit(first[many - 1].charAt(0), 12));
            c.due("drawn of " + many, order(p, many), first[many - 1]);
            c.due("z behind " + many, p.seed(behind[many - 1]), behind[many - 1]);
            p.draw(1);
            c.due("the other event of " + many, order(p, 1, many), second[many - 1]);
            c.due("the first event's draw stands for " + many, order(p, many), first[many - 1]);
        }
    }

    private static String order(KickflipPark p, int many) {
        return order(p, 0, many);
    }

    /** The athletes in their order, 10 and 11 as a and b. */
    private static String order(KickflipPark p, int event, int many) {
        StringBuilder order = new StringBuilder();
        for (int place = 0; place < many; place++) {
            order.append(Character.forDigit(p.starter(event, place), 12));
        }
        return order.toString();
    }

    private static void seeds() {
        KickflipPark p = new KickflipPark();
        c.refused("0", IllegalArgumentException.class, () -> p.seed(0));
        c.refused("below", IllegalArgumentException.class, () -> p.seed(-5));
        c.refused("the modulus", IllegalArgumentException.class, () -> p.seed(2147483647));
        c.due("1 at first", p.seed(2147483646), 1);
        c.due("the greatest", p.seed(9), 2147483646);
        c.due("9 then", p.seed(1), 9);
    }
}
