/** The edges of promises 37 and 38: risk, choice. */
public final class ChoiceEdgesTest {
    private static final Edges e = new Edges("ChoiceEdgesTest");

    private static final String NONE = " = throws IndexOutOfBoundsException;";
    private static final String ILLEGAL = " = throws IllegalArgumentException;";
    private static final String NO_SET = " = throws NoSuchElementException;";

    public static void main(String[] args) {
        risks();
        risksInOrder();
        choicesOfNone();
        needs();
        oneToThree();
        leastRisks();
        likeRisks();
        lowestBits();
        highBits();
        e.end();
    }

    /** Two athletes; tricks of the bases 5, 10, 15, 20, 25 and 0, and risks of the athlete 0 of them, -1 for none. */
    private static String park(int... risks) {
        StringBuilder told = new StringBuilder("athlete(0); athlete(1);");
        for (int i = 0; i < 6; i++) {
            told.append("trick('n', 'o', 'f', 'u', ").append((i + 1) % 6).append(", 0, 0);");
        }
        for (int i = 0; i < risks.length; i++) {
            told.append(risks[i] < 0 ? "" : "risk(0, " + i + ", " + risks[i] + ");");
        }
        return told.toString();
    }

    private static void risks() {
        for (String none : "2,-1,12,MAX,MIN".split(",")) {
            e.edge("37: there is no such athlete", park(9), "risk(" + none + ", 0, 5)" + NONE);
        }
        for (String none : "6,-1,60,MAX,MIN".split(",")) {
            e.edge("37: there is no such trick", park(9), "risk(0, " + none + ", 5)" + NONE, "risk(0, 5, 5) = -1");
        }
        e.edge("37: 0 or more", park(9), "risk(0, 0, -1)" + ILLEGAL, "risk(0, 1, -1)" + ILLEGAL, "risk(0, 0, MIN)" + ILLEGAL,
                "risk(0, 0, 0) = 9; risk(0, 1, 0) = -1; risk(0, 0, 1) = 0");
        e.edge("37: 100 or less", park(9), "risk(0, 0, 101)" + ILLEGAL, "risk(0, 1, 101)" + ILLEGAL,
                "risk(0, 0, MAX)" + ILLEGAL,
                "risk(0, 0, 100) = 9; risk(0, 1, 100) = -1; risk(0, 0, 1) = 100");
        e.edge("37: of each athlete for each trick", park(9),
                "risk(1, 0, 5) = -1; risk(0, 1, 6) = -1; risk(0, 0, 7) = 9; risk(1, 0, 8) = 5; risk(0, 1, 9) = 6");
        e.edge("37: the last athlete and the last trick", "athlete(0);".repeat(12), sixty(),
                "risk(11, 59, 3) = -1; risk(11, 59, 4) = 3;",
                "risk(12, 59, 3)" + NONE, "risk(11, 60, 3)" + NONE, "risk(0, 59, 3) = -1; risk(11, 0, 3) = -1");
    }

    private static void risksInOrder() {
        e.edge("37: of both exceptions the one for an athlete or trick", park(9), "risk(2, 0, 101)" + NONE,
                "risk(0, 6, -1)" + NONE,
                "risk(2, 6, 5)" + NONE, "risk(0, 0, 101)" + ILLEGAL);
    }

    private static void choicesOfNone() {
        for (String none : "2,-1,12,MAX,MIN".split(",")) {
            e.edge("38: there is no such athlete", park(9), "choice(" + none + ", 5)" + NONE,
                "choice(" + none + ", 0)" + NONE);
        }
        e.edge("38: no risk told", park(), "choice(0, 1)" + NO_SET, "choice(0, 999)" + NO_SET,
                "risk(0, 0, 9); choice(0, 1) = 1;", "choice(1, 1)" + NO_SET);
        e.edge("38: no tricks", "athlete(0);", "choice(0, 1)" + NO_SET);
        e.edge("38: of several exceptions the one listed first", park(), "choice(2, 0)" + NONE, "choice(2, 1000)" + NONE,
                "choice(2, 1)" + NONE,
                "choice(0, 0)" + ILLEGAL, "choice(0, 1000)" + ILLEGAL, "choice(0, 1)" + NO_SET);
    }

    private static void needs() {
        e.edge("38: the need is 1 or more", park(9), "choice(0, 0)" + ILLEGAL, "choice(0, -1)" + ILLEGAL,
                "choice(0, MIN)" + ILLEGAL, "choice(0, 1) = 1");
        e.edge("38: the need is 999 or less", park(9), "choice(0, 1000)" + ILLEGAL, "choice(0, MAX)" + ILLEGAL,
                "choice(0, 999)" + NO_SET);
        e.edge("38: bases sum to the need, or more, or less", park(9), "choice(0, 4) = 1; choice(0, 5) = 1;",
                "choice(0, 6)" + NO_SET);
        e.edge("38: a base of 0 sums to no need", park(-1, -1, -1, -1, -1, 0), "choice(0, 1)" + NO_SET,
                "risk(0, 0, 0); choice(0, 1) = 1;",
                "choice(0, 5) = 1; choice(0, 6)" + NO_SET);
    }

    private static void oneToThree() {
        e.edge("38: one, two and three tricks", park(1, 1, 1),
                "choice(0, 15) = 4; choice(0, 16) = 5; choice(0, 20) = 5; choice(0, 21) = 6;",
                "choice(0, 25) = 6; choice(0, 26) = 7; choice(0, 30) = 7;", "choice(0, 31)" + NO_SET);
        e.edge("38: no more than three tricks", park(1, 1, 1, 1), "choice(0, 45) = 14;", "choice(0, 46)" + NO_SET,
                "choice(0, 50)" + NO_SET);
        e.edge("38: a trick is in it once", park(-1, -1, -1, -1, 1), "choice(0, 25) = 16;", "choice(0, 26)" + NO_SET);
        e.edge("38: tricks with a risk told alone", park(1, -1, 1, -1, -1), "choice(0, 20) = 5;",
                "choice(0, 21)" + NO_SET, "risk(0, 1, 100); choice(0, 21) = 6");
        // The greatest bases that three unlike tricks have: 91 each, by three grabs.
        e.edge("38: the greatest need that there is a choice for", "athlete(0); trick('s', 'o', 'f', 'd', 12, 1, 3);",
                "trick('s', 'o', 'f', 'd', 12, 2, 3); trick('s', 'o', 'f', 'd', 12, 3, 3); risk(0, 0, 100);",
                "risk(0, 1, 100); risk(0, 2, 100);",
                "choice(0, 273) = 7;", "choice(0, 274)" + NO_SET);
    }

    private static void leastRisks() {
        e.edge("38: the least sum of risks, of one or more", park(40, 41, 82),
                "choice(0, 15) = 3; risk(0, 2, 80); choice(0, 15) = 4");
        e.edge("38: of two or three", park(10, 20, 31, 60), "choice(0, 30) = 7; risk(0, 2, 50); risk(0, 3, 30);",
                "choice(0, 30) = 10");
        e.edge("38: risks of 0 and of 100", park(0, 0, 0, 100), "choice(0, 20) = 5; choice(0, 30) = 7; choice(0, 31) = 12");
        e.edge("38: the risk told last", park(5, 50), "choice(0, 5) = 1; risk(0, 0, 60); choice(0, 5) = 2;",
                "risk(0, 1, 61); choice(0, 5) = 1");
        e.edge("38: more than the need is no matter", park(50, 50, 50, 50, 49), "choice(0, 1) = 16");
    }

    private static void likeRisks() {
        e.edge("38: of like ones the fewest, one of two", park(10, 20, 30), "choice(0, 15) = 4");
        e.edge("38: of like ones the fewest, two of three", park(10, 10, 10, 20), "choice(0, 30) = 10");
        e.edge("38: of like ones the fewest, whatever their bits", park(0, 0, 0, 0, 0),
                "choice(0, 25) = 16; choice(0, 20) = 8; choice(0, 45) = 24");
        e.edge("38: risks of 0 make no choice greater", park(0, 0, 0, 0, 0, 0), "choice(0, 5) = 1; choice(0, 60) = 28");
    }

    private static void lowestBits() {
        e.edge("38: then the lowest bits, of one", park(7, 7, 7),
                "choice(0, 5) = 1; choice(0, 6) = 2; risk(0, 0, 8); choice(0, 5) = 2");
        e.edge("38: then the lowest bits, of two", park(10, 10, 10, 10),
                "choice(0, 21) = 6; choice(0, 25) = 6; choice(0, 26) = 10");
        e.edge("38: then the lowest bits, of three", park(5, 5, 5, 5, 5),
                "choice(0, 46) = 22; choice(0, 50) = 22; choice(0, 51) = 26; choice(0, 55) = 26; choice(0, 56) = 28");
    }

    private static String sixty() {
        StringBuilder told = new StringBuilder();
        for (int i = 0; i < 60; i++) {
            told.append("trick('n', 'o', 'f', '").append("ucdi".charAt(i / 13 % 4)).append("', ").append(i % 13)
                    .append(i < 52 ? ", 0, 0);" : ", 5, 3);");
        }
        return told.toString();
    }

    private static void highBits() {
        // Bases: 44 of 59, 39 of 58, 34 of 57, 25 of 5, 30 of 6.
        e.edge("38: bits above those of an int", "athlete(0);", sixty(),
                "base(59) = 44; base(58) = 39; risk(0, 59, 100); choice(0, 44) = 576460752303423488;",
                "risk(0, 58, 100); choice(0, 83) = 864691128455135232; choice(0, 39) = 288230376151711744;",
                "risk(0, 31, 100); base(31) = 41; choice(0, 124) = 864691130602618880; choice(0, 41) = 2147483648");
        e.edge("38: high bits are not lower than low ones", "athlete(0);", sixty(),
                "risk(0, 59, 5); risk(0, 12, 5); base(12) = 60; choice(0, 40) = 4096;",
                "risk(0, 59, 4); choice(0, 40) = 576460752303423488");
        e.edge("38: 60 tricks with risks", "athlete(0);", sixty(), Probes.each(60, "risk(0, #, 1);"),
                "choice(0, 1) = 2; choice(0, 60) = 4096; choice(0, 999)" + NO_SET);
    }
}
