/** Promises 40 to 43: fallShare, meanParts, checksum, isTrue. */
public final class SumsTest {
    private static final Checks c = new Checks("SumsTest");

    public static void main(String[] args) {
        KickflipPark p = new KickflipPark();
        c.refused("no tricks done", ArithmeticException.class, p::fallShare);
        c.refused("no runs ended", ArithmeticException.class, p::meanParts);
        c.due("at first", p.checksum(), 7);
        p.feature('r', 0, 99, 0);
        p.feature('g', 50, 99, 0);
        p.trick('n', 'o', 'f', 'u', 2, 0, 0);
        p.trick('n', 'o', 'f', 'u', 3, 0, 0);
        p.athlete(0);
        p.athlete(0);
        p.event('b', 1, 1);
        p.enter(0, 0);
        p.enter(0, 1);
        p.start(0, 1);
        c.refused("no tricks done yet", ArithmeticException.class, p::fallShare);
        c.refused("no runs ended yet", ArithmeticException.class, p::meanParts);
        c.due("an open run", p.checksum(), 7 * 31 + 1);
        p.does(1, 0, '-');
        c.due("a trick", p.checksum(), 218L * 31 + 1);
        c.due("no falls", p.fallShare(), 0.0f);
        c.refused("no runs ended still", ArithmeticException.class, p::meanParts);
        p.end();
        c.due("one run", p.meanParts(), 19.0);
        p.start(0, 0);
        p.does(0, 1, '-');
        p.does(0, 1, 'f');
        c.due("falls of all kinds, open runs too", p.fallShare(), 2f / 3f);
        c.due("ended runs alone", p.meanParts(), 19.0);
        p.end();
        c.due("two runs", p.meanParts(), 9.5);
        long all = 6759L * 31;
        all = all * 31 + 10100;
        all = all * 31 + 10100;
        c.due("all runs", p.checksum(), all);
        p.strike(0);
        c.due("struck ones too: share", p.fallShare(), 2f / 3f);
        c.due("struck ones too: mean", p.meanParts(), 9.5);
        c.due("struck ones too: checksum", p.checksum(), all);
        p.start(0, 0);
        p.does(1, 0, 'h');
        p.end();
        // 19 less 5, of three runs.
        c.due("a third", p.meanParts(), 33.0 / 3.0);
        c.due("isTrue", p.isTrue(), true);
        c.end();
    }
}
