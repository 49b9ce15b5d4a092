import java.util.NoSuchElementException;

/** Promises 37 and 38: risk, choice. */
public final class ChoiceTest {
    private static final Checks c = new Checks("ChoiceTest");

    public static void main(String[] args) {
        risks();
        choices();
        likeChoices();
        highBits();
        c.end();
    }

    private static void risks() {
        KickflipPark p = new KickflipPark();
        p.athlete(0);
        p.athlete(0);
        p.trick('n', 'o', 'f', 'u', 2, 0, 0);
        c.refused("no athlete", IndexOutOfBoundsException.class, () -> p.risk(2, 0, 101));
        c.refused("no trick", IndexOutOfBoundsException.class, () -> p.risk(0, 1, 101));
        c.refused("trick below", IndexOutOfBoundsException.class, () -> p.risk(0, -1, 1));
        c.refused("above", IllegalArgumentException.class, () -> p.risk(0, 0, 101));
        c.refused("below", IllegalArgumentException.class, () -> p.risk(0, 0, -1));
        c.due("none before", p.risk(0, 0, 0), -1);
        c.due("0 before", p.risk(0, 0, 100), 0);
        c.due("100 before", p.risk(0, 0, 5), 100);
        c.due("of another athlete", p.risk(1, 0, 5), -1);
    }

    /** Trick i has i + 1 half turns, a base of 5 i + 5. */
    private static KickflipPark park(int... risks) {
        KickflipPark p = new KickflipPark();
        p.athlete(0);
        p.athlete(0);
        for (int i = 0; i < risks.length; i++) {
            p.trick('n', 'o', 'f', 'u', i + 1, 0, 0);
            if (risks[i] >= 0) {
                p.risk(0, i, risks[i]);
            }
        }
        return p;
    }

    private static void choices() {
        // Bases 5, 10, 15, 20, 25.
        KickflipPark p = park(50, 60, 10, 90, -1);
        c.due("one", p.choice(0, 1), 0b100);
        c.due("the base itself", p.choice(0, 15), 0b100);
        c.due("two", p.choice(0, 16), 0b101);
        c.due("two others", p.choice(0, 21), 0b110);
        c.due("three with less risk than two", p.choice(0, 26), 0b1100);
        c.due("three", p.choice(0, 36), 0b1101);
        c.due("all that three can", p.choice(0, 45), 0b1110);
        c.refused("more than three can", NoSuchElementException.class, () -> p.choice(0, 46));
        c.refused("no athlete", IndexOutOfBoundsException.class, () -> p.choice(2, 0));
        c.refused("0", IllegalArgumentException.class, () -> p.choice(0, 0));
        c.refused("1000", IllegalArgumentException.class, () -> p.choice(0, 1000));
        c.refused("999", NoSuchElementException.class, () -> p.choice(0, 999));
        c.refused("no risk told", NoSuchElementException.class, () -> p.choice(1, 1));
        c.refused("no risk told, 0", IllegalArgumentException.class, () -> p.choice(1, 0));
    }

    private static void likeChoices() {
        c.due("the fewest", park(0, 0, 0).choice(0, 15), 0b100);
        c.due("the fewest of like risks", park(10, 10, 20, -1).choice(0, 15), 0b100);
        c.due("less risk by more tricks", park(10, 9, 20, -1).choice(0, 15), 0b011);
        c.due("the lowest bits", park(7, 7, 7).choice(0, 5), 0b001);
        // 20 by two tricks: 5 and 15 alone; 25 by 5 and 20 or 10 and 15: the number of bits 6 is lower than 9.
        c.due("the lowest number of bits", park(10, 10, 10, 10, -1).choice(0, 25), 0b110);
        c.due("one of base 0", zeroBase(), 0b10);
    }

    private static long zeroBase() {
        KickflipPark p = new KickflipPark();
        p.athlete(0);
        p.trick('n', 'o', 'f', 'u', 0, 0, 0);
        p.trick('n', 'o', 'f', 'u', 1, 0, 0);
        p.risk(0, 0, 0);
        p.risk(0, 1, 0);
        return p.choice(0, 1);
    }

    private static void highBits() {
        KickflipPark p = new KickflipPark();
        p.athlete(0);
        for (int i = 0; i < 60; i++) {
            p.trick('n', 'o', 'f', "ucdi".charAt(i % 4), 1 + i / 10, i % 5 + 1, i % 3 + 1);
        }
        p.risk(0, 59, 100);
        p.risk(0, 58, 100);
        p.risk(0, 31, 100);
        c.due("three", p.choice(0, p.base(59) + p.base(58) + p.base(31)), 1L << 59 | 1L << 58 | 1L << 31);
        c.due("one", p.choice(0, p.base(31)), 1L << 31);
    }
}
