import java.math.BigInteger;

/** The edges of promises 40 to 43: fallShare, meanParts, checksum, isTrue. */
public final class SumsEdgesTest {
    private static final Edges e = new Edges("SumsEdgesTest");

    /** A rail and a gap too fast for a start, bases 10 and 15, two athletes in the event. */
    private static final String PARK = """
            feature('r', 0, 99, 0); feature('g', 50, 99, 0); line(0, 1, 0); line(1, 0, 0)
            trick('n', 'o', 'f', 'u', 2, 0, 0); trick('n', 'o', 'f', 'u', 3, 0, 0)
            athlete(0); athlete(0); event('b', 0, 1); enter(0, 0); enter(0, 1)
            """;

    public static void main(String[] args) {
        shares();
        means();
        checksums();
        wrapsAround();
        truths();
        e.end();
    }

    private static void shares() {
        e.edge("40: there are no tricks done", "fallShare() = throws ArithmeticException");
        e.edge("40: there are runs, but no tricks done", PARK,
                "start(0, 0); fallShare() = throws ArithmeticException; end();",
                "fallShare() = throws ArithmeticException");
        e.edge("40: no falls, and all of them", PARK, "start(0, 0); does(0, 0, '-'); fallShare() = 0.0; end();",
                "fallShare() = 0.0;",
                "start(0, 1); does(0, 0, 'h'); end(); fallShare() = 0.0");
        e.edge("40: all are falls", PARK, "start(0, 0); does(0, 0, 'f'); fallShare() = 1.0; does(0, 1, '-') = false;",
                "fallShare() = 1.0");
        e.edge("40: divided as float", PARK, "start(0, 0); does(0, 0, 'f'); does(0, 0, '-'); fallShare() = 0.5; end();",
                "start(0, 0); does(0, 0, '-'); fallShare() = 0.33333334; end(); strike(0); fallShare() = 0.33333334");
    }

    private static void means() {
        e.edge("41: there are no runs that were ended", PARK,
                "meanParts() = throws ArithmeticException; start(0, 0); does(0, 0, '-');",
                "meanParts() = throws ArithmeticException; end(); meanParts() = 14.0");
        e.edge("41: empty runs", PARK, "start(0, 0); end(); meanParts() = 0.0");
        e.edge("41: divided as double, without the run that is open", PARK,
                "start(0, 0); does(0, 0, '-'); end(); start(0, 0); end();",
                "meanParts() = 7.0; start(0, 1); does(0, 0, '-'); meanParts() = 7.0; end();",
                "meanParts() = 9.333333333333334");
        e.edge("41: runs that were struck out were ended", PARK,
                "start(0, 0); does(0, 0, '-'); end(); strike(0); meanParts() = 14.0; close(0); meanParts() = 14.0");
    }

    private static void checksums() {
        e.edge("42: 7 at first", "checksum() = 7");
        e.edge("42: 31 times itself plus the athlete", PARK, "checksum() = 7; start(0, 0); checksum() = 217; end();",
                "checksum() = 217;",
                "start(0, 1); checksum() = 6728");
        // 217 times 31 is 6727; 6728 times 31 is 208568; 218669 times 31 is 6778739.
        e.edge("42: the trick, 100 times the feature, 10000 for a fall", PARK,
                "start(0, 0); does(1, 0, '-'); checksum() = 6728;",
                "does(1, 1, '-') = false; checksum() = 218669; does(0, 0, 'f'); checksum() = 6788739");
        e.edge("42: runs that were struck out are runs", PARK,
                "start(0, 0); does(1, 0, 'h'); end(); strike(0); checksum() = 6728");
    }

    /** As much as 512 calls can tell: runs of ten tricks, by numbers and without bounds. */
    private static void wrapsAround() {
        StringBuilder told = new StringBuilder(PARK).append("build(1, 0, 99, 0);");
        BigInteger sum = BigInteger.valueOf(7);
        BigInteger by = BigInteger.valueOf(31);
        for (int run = 0; run < 36; run++) {
            int athlete = run % 4 / 2;
            told.append(run > 0 && run % 4 == 0 ? "round(0, 2);" : "").append("start(0, ").append(athlete).append(");");
            sum = sum.multiply(by).add(BigInteger.valueOf(athlete));
            for (int place = 0; place < 10; place++) {
                boolean isFall = run < 2 && place == 9;
                told.append("does(1, ").append(place % 2).append(isFall ? ", 'f') = false;" : ", '-') = true;");
                sum = sum.multiply(by).add(BigInteger.valueOf(1 + place % 2 * 100 + (isFall ? 10000 : 0)));
            }
            told.append("end(); checksum() = ").append(sum.longValue()).append(';');
        }
        e.edge("42: it wraps around", told.toString());
    }

    private static void truths() {
        e.edge("43: of a new park", "isTrue() = true");
        e.edge("43: with a run that is open, ended, struck out, and one of a closed event", PARK,
                "start(0, 0); isTrue() = true;",
                "does(0, 0, '-'); does(0, 1, 'h'); isTrue() = true; end(); isTrue() = true; start(0, 0); end();",
                "strike(0); isTrue() = true;",
                "hold(0, true); close(0); isTrue() = true");
        e.edge("43: with runs that have no score", PARK, "event('s', 3, 2); enter(1, 0); start(1, 0); does(0, 0, '-');",
                "end();",
                "isTrue() = true; mark(0, 0, 5); isTrue() = true; mark(0, 1, 6); isTrue() = true");
        e.edge("43: behind protests", PARK, "start(0, 0); does(0, 0, '-'); does(0, 1, 'f'); end(); protest(0, 0, 1);",
                "isTrue() = true; protest(0, 1, 1); isTrue() = true");
    }
}
