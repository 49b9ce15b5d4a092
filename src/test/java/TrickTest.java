/** Promises 5 to 8: trick, tricks, base, of. */
public final class TrickTest {
    private static final Checks c = new Checks("TrickTest");

    public static void main(String[] args) {
        sharedTellings();
        bases();
        letters();
        wrongTellings();
        sixtyTricks();
        c.end();
    }

    private static void sharedTellings() {
        KickflipPark p = new KickflipPark();
        c.due("first", p.trick('n', 'o', 'f', 'u', 2, 0, 0), 0);
        c.due("from the nose", p.trick('s', 'p', 'b', 'u', 2, 0, 0), 0);
        c.due("grab held 0", p.trick('n', 'o', 'f', 'u', 2, 5, 0), 0);
        c.due("the other way", p.trick('n', 'o', 'b', 'u', 2, 0, 0), 1);
        c.due("nose, same stance", p.trick('n', 'p', 'b', 'u', 2, 0, 0), 2);
        c.due("switch, way f", p.trick('s', 'o', 'f', 'u', 2, 0, 0), 2);
        c.due("no half turns", p.trick('n', 'o', 'f', 'u', 0, 0, 0), 3);
        c.due("no half turns, b", p.trick('n', 'o', 'b', 'u', 0, 0, 0), 3);
        c.due("no half turns, nose", p.trick('s', 'p', 'f', 'u', 0, 0, 0), 3);
        c.due("no half turns, switch", p.trick('s', 'o', 'f', 'u', 0, 0, 0), 4);
        c.due("another axis", p.trick('n', 'o', 'f', 'c', 2, 0, 0), 5);
        c.due("a grab", p.trick('n', 'o', 'f', 'u', 2, 1, 1), 6);
        c.due("another grab", p.trick('n', 'o', 'f', 'u', 2, 2, 1), 7);
        c.due("held longer", p.trick('n', 'o', 'f', 'u', 2, 1, 2), 8);
        c.due("more half turns", p.trick('n', 'o', 'f', 'u', 3, 0, 0), 9);
        c.due("how many", p.tricks(), 10);
        c.due("isTrue", p.isTrue(), true);
    }

    private static void bases() {
        KickflipPark p = new KickflipPark();
        c.due("plain", p.base(p.trick('n', 'o', 'f', 'u', 0, 0, 0)), 0);
        c.due("half turns", p.base(p.trick('n', 'o', 'f', 'u', 12, 0, 0)), 60);
        c.due("cork", p.base(p.trick('n', 'o', 'f', 'c', 1, 0, 0)), 13);
        c.due("double cork", p.base(p.trick('n', 'o', 'f', 'd', 1, 0, 0)), 21);
        c.due("inverted", p.base(p.trick('n', 'o', 'f', 'i', 1, 0, 0)), 17);
        c.due("switch", p.base(p.trick('s', 'o', 'f', 'u', 1, 0, 0)), 11);
        c.due("natural from the nose is switch", p.base(p.trick('n', 'p', 'f', 'u', 1, 0, 0)), 11);
        c.due("switch from the nose is natural", p.base(p.trick('s', 'p', 'f', 'u', 1, 0, 0)), 5);
        c.due("grab held 1", p.base(p.trick('n', 'o', 'f', 'u', 1, 1, 1)), 10);
        c.due("grab held 3", p.base(p.trick('n', 'o', 'f', 'u', 1, 5, 3)), 14);
        c.due("grab held 0", p.base(p.trick('n', 'o', 'f', 'u', 1, 5, 0)), 5);
        c.due("everything", p.base(p.trick('s', 'o', 'b', 'd', 12, 5, 3)), 91);
        c.due("the example", p.base(p.trick('s', 'o', 'f', 'c', 3, 1, 2)), 36);
        c.refused("none", IndexOutOfBoundsException.class, () -> p.base(p.tricks()));
        c.refused("below", IndexOutOfBoundsException.class, () -> p.base(-1));
        c.refused("far", IndexOutOfBoundsException.class, () -> p.base(60));
    }

    private static void letters() {
        KickflipPark p = new KickflipPark();
        p.trick('n', 'p', 'f', 'd', 1, 0, 0);
        c.due("stance", p.of(0, 's'), 's');
        c.due("way", p.of(0, 'w'), 'b');
        c.due("axis", p.of(0, 'a'), 'd');
        p.trick('s', 'p', 'f', 'i', 0, 0, 0);
        c.due("stance from the nose", p.of(1, 's'), 'n');
        c.due("no way", p.of(1, 'w'), '-');
        c.refused("no such letter", IllegalArgumentException.class, () -> p.of(0, 'S'));
        c.refused("no such trick, no such letter", IndexOutOfBoundsException.class, () -> p.of(2, 'S'));
        c.refused("below", IndexOutOfBoundsException.class, () -> p.of(-1, 's'));
    }

    private static void wrongTellings() {
        KickflipPark p = new KickflipPark();
        Class<IllegalArgumentException> illegal = IllegalArgumentException.class;
        c.refused("stance", illegal, () -> p.trick('N', 'o', 'f', 'u', 1, 0, 0));
        c.refused("take-off", illegal, () -> p.trick('n', 'n', 'f', 'u', 1, 0, 0));
        c.refused("way", illegal, () -> p.trick('n', 'o', '-', 'u', 0, 0, 0));
        c.refused("axis", illegal, () -> p.trick('n', 'o', 'f', 'x', 1, 0, 0));
        c.refused("halves above", illegal, () -> p.trick('n', 'o', 'f', 'u', 13, 0, 0));
        c.refused("halves below", illegal, () -> p.trick('n', 'o', 'f', 'u', -1, 0, 0));
        c.refused("grab above", illegal, () -> p.trick('n', 'o', 'f', 'u', 1, 6, 0));
        c.refused("grab below", illegal, () -> p.trick('n', 'o', 'f', 'u', 1, -1, 0));
        c.refused("held above", illegal, () -> p.trick('n', 'o', 'f', 'u', 1, 1, 4));
        c.refused("held below", illegal, () -> p.trick('n', 'o', 'f', 'u', 1, 1, -1));
        c.refused("held without a grab", illegal, () -> p.trick('n', 'o', 'f', 'u', 1, 0, 1));
        c.due("none was told", p.tricks(), 0);
    }

    private static void sixtyTricks() {
        KickflipPark p = new KickflipPark();
        for (int i = 0; i < 60; i++) {
            c.due("trick " + i, p.trick('n', 'o', 'f', "ucdi".charAt(i % 4), 1 + i / 10, i % 5 + 1, i % 3 + 1), i);
        }
        c.refused("a further one", IllegalStateException.class, () -> p.trick('s', 'o', 'f', 'u', 12, 0, 0));
        c.refused("a wrong one", IllegalArgumentException.class, () -> p.trick('s', 'o', 'f', 'u', 13, 0, 0));
        c.due("one that is known", p.trick('s', 'p', 'b', 'i', 6, 5, 3), 59);
        c.due("how many", p.tricks(), 60);
        c.due("isTrue", p.isTrue(), true);
    }
}
