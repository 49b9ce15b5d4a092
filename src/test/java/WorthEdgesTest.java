/** The edges of promise 19 in what a trick is worth: features, faults, repeats by the edition, and what is cut. */
public final class WorthEdgesTest {
    private static final Edges e = new Edges("WorthEdgesTest");

    /** A rail, a gap, a lip and a landing, with lines everywhere; an athlete. */
    private static final String PARK = """
            feature('r', 0, 99, 0); feature('g', 0, 99, 0); feature('l', 0, 99, 0); feature('d', 0, 99, 0)
            line(0, 1, 0); line(0, 2, 0); line(0, 3, 0); line(1, 0, 0); line(1, 2, 0); line(1, 3, 0)
            line(2, 0, 0); line(2, 1, 0); line(2, 3, 0); line(3, 0, 0); line(3, 1, 0); line(3, 2, 0)
            athlete(0)
            """;

    // Tricks by their bases.
    private static final String BASE_0 = "trick('n', 'o', 'f', 'u', 0, 0, 0);";
    private static final String BASE_5 = "trick('n', 'o', 'f', 'u', 1, 0, 0);";
    private static final String BASE_6 = "trick('s', 'o', 'f', 'u', 0, 0, 0);";
    private static final String BASE_10 = "trick('n', 'o', 'f', 'u', 2, 0, 0);";
    private static final String BASE_15 = "trick('n', 'o', 'f', 'u', 3, 0, 0);";
    private static final String BASE_18 = "trick('n', 'o', 'f', 'c', 2, 0, 0);";
    private static final String BASE_43 = "trick('s', 'o', 'f', 'c', 4, 2, 3);";
    private static final String BASE_91 = "trick('s', 'o', 'b', 'd', 12, 5, 3);";

    public static void main(String[] args) {
        features();
        hands();
        reverts();
        fallen();
        editions();
        repeats();
        orderOfLosses();
        e.end();
    }

    private static String event(int edition) {
        return "event('b', " + edition + ", 1); enter(0, 0); start(0, 0);";
    }

    private static void features() {
        e.edge("19: on a rail 4 more, on a lip 2 more, on a landing half, cut", PARK, BASE_15, event(4),
                "does(0, 0, '-'); does(0, 1, '-'); does(0, 2, '-'); does(0, 3, '-');",
                "worth(0, 0) = 19; worth(0, 1) = 15; worth(0, 2) = 17; worth(0, 3) = 7; end() = 58");
        e.edge("19: a base of 0", PARK, BASE_0, event(4),
                "does(0, 0, '-'); does(0, 1, '-'); does(0, 2, '-'); does(0, 3, '-');",
                "worth(0, 0) = 4; worth(0, 1) = 0; worth(0, 2) = 2; worth(0, 3) = 0; end() = 6");
        e.edge("19: the greatest base", PARK, BASE_91, event(4),
                "does(0, 0, '-'); does(0, 1, '-'); does(0, 2, '-'); does(0, 3, '-');",
                "worth(0, 0) = 95; worth(0, 1) = 91; worth(0, 2) = 93; worth(0, 3) = 45; end() = 324");
        e.edge("19: half of an even base is not cut", PARK, BASE_10, BASE_6, event(0),
                "does(0, 3, '-'); does(1, 0, '-'); worth(0, 0) = 5; worth(0, 1) = 10; end() = 15");
    }

    private static void hands() {
        // 3 tenths of 15 are 4, of 10 are 3, of 6 are 1, of 4 and 5 are 1, of 2 and 0 are 0.
        e.edge("19: by 'h' 3 tenths, cut, are lost", PARK, BASE_0, BASE_5, BASE_10, BASE_15, BASE_6, event(4),
                "does(0, 0, 'h'); does(1, 1, 'h'); does(0, 2, 'h'); does(2, 1, 'h'); does(1, 3, 'h');",
                "does(3, 1, 'h'); does(0, 3, 'h'); does(4, 1, 'h'); does(3, 0, 'h'); does(3, 3, 'h');",
                "worth(0, 0) = 3; worth(0, 1) = 4; worth(0, 2) = 2; worth(0, 3) = 7; worth(0, 4) = 2;",
                "worth(0, 5) = 11; worth(0, 6) = 0; worth(0, 7) = 5; worth(0, 8) = 14; worth(0, 9) = 5; end() = 53");
        e.edge("19: by 'h' of the greatest worth", PARK, BASE_91, event(0), "does(0, 0, 'h'); worth(0, 0) = 67");
    }

    private static void reverts() {
        // 2 tenths of 15 are 3, of 10 are 2, of 9 are 1, of 5 are 1, of 4, 2 and 0 are 0.
        e.edge("19: by 'r' 2 tenths, cut, are lost", PARK, BASE_0, BASE_5, BASE_10, BASE_15, BASE_6, event(4),
                "does(0, 0, 'r'); does(1, 1, 'r'); does(0, 2, 'r'); does(2, 1, 'r'); does(1, 3, 'r');",
                "does(3, 1, 'r'); does(0, 3, 'r'); does(4, 1, 'r'); does(1, 0, 'r'); does(3, 3, 'r');",
                "worth(0, 0) = 4; worth(0, 1) = 4; worth(0, 2) = 2; worth(0, 3) = 8; worth(0, 4) = 2;",
                "worth(0, 5) = 12; worth(0, 6) = 0; worth(0, 7) = 5; worth(0, 8) = 8; worth(0, 9) = 6; end() = 51");
        e.edge("19: by 'r' of the greatest worth", PARK, BASE_91, event(0), "does(0, 0, 'r'); worth(0, 0) = 76");
    }

    private static void fallen() {
        e.edge("19: by 'f' all is lost", PARK, BASE_0, BASE_91, event(4),
                "does(1, 0, 'f'); does(0, 0, 'f'); does(1, 3, 'f'); worth(0, 0) = 0; worth(0, 1) = 0; worth(0, 2) = 0;",
                "end() = 0");
    }

    private static void editions() {
        String[] worths = {"0, 0", "0, 0", "7, 9", "7, 9", "15, 0", "15, 0", "15, 9", "15, 9"};
        for (int edition = 0; edition <= 7; edition++) {
            String[] due = worths[edition].split(", ");
            e.edge("19: a repeat by the edition " + edition, PARK, BASE_15, event(edition),
                    "does(0, 0, '-'); does(0, 1, '-'); does(0, 0, '-'); worth(0, 0) = 19;",
                    "worth(0, 1) = " + due[0] + "; worth(0, 2) = " + due[1] + "; isTrue() = true");
        }
    }

    private static void repeats() {
        e.edge("19: a trick that was in the run ahead as a fall is repeated", PARK, BASE_15, event(2),
                "does(0, 0, 'f'); does(0, 0, '-'); worth(0, 0) = 0; worth(0, 1) = 9");
        e.edge("19: so it is on the same feature, and worth nothing", PARK, BASE_15, event(4),
                "does(0, 0, 'f'); does(0, 0, '-'); does(0, 1, '-'); worth(0, 1) = 0; worth(0, 2) = 15");
        e.edge("19: a fall that repeats is worth nothing", PARK, BASE_15, event(2),
                "does(0, 0, '-'); does(0, 1, 'f'); worth(0, 1) = 0; end() = 19");
        e.edge("19: each further repeat is worth half, not half of half", PARK, BASE_15, event(2),
                "does(0, 0, '-'); does(0, 1, '-'); does(0, 0, '-'); does(0, 1, '-'); worth(0, 2) = 9; worth(0, 3) = 7");
        e.edge("19: a repeat with other tricks between", PARK, BASE_15, BASE_5, BASE_10, event(0),
                "does(0, 0, '-'); does(1, 1, '-'); does(2, 2, '-'); does(0, 3, '-'); worth(0, 1) = 5; worth(0, 2) = 12;",
                "worth(0, 3) = 0");
        e.edge("19: the tenth repeats the first", PARK, BASE_15, BASE_5, event(2), "does(0, 0, '-');",
                "does(1, 1, '-'); does(1, 0, '-');".repeat(4),
                "does(0, 1, '-'); worth(0, 0) = 19; worth(0, 9) = 7; end() = 53");
        e.edge("19: only the same trick is repeated", PARK, BASE_15, "trick('n', 'o', 'b', 'u', 3, 0, 0);", event(0),
                "does(0, 0, '-'); does(1, 1, '-'); worth(0, 1) = 15");
        e.edge("19: a run ahead in the event is another run", PARK, BASE_15, event(0),
                "does(0, 0, '-'); end(); start(0, 0); does(0, 0, '-'); worth(1, 0) = 19; worth(0, 0) = 19");
        e.edge("19: half of an odd worth is cut", PARK, BASE_0, BASE_15, event(2),
                "does(1, 1, '-'); does(1, 3, '-'); does(0, 0, '-'); does(0, 2, '-'); does(0, 1, '-');",
                "worth(0, 1) = 3; worth(0, 3) = 1; worth(0, 4) = 0");
    }

    private static void orderOfLosses() {
        // Half of 47 is 23, less 6; less its 3 tenths it would be 33, and half of that 16.
        e.edge("19: a repeat makes less of it, then 'h'", PARK, BASE_43, event(2),
                "does(0, 1, '-'); does(0, 0, 'h'); worth(0, 0) = 43; worth(0, 1) = 17");
        // Half of 18 is 9, less 1; less its 2 tenths it would be 15, and half of that 7.
        e.edge("19: a repeat makes less of it, then 'r'", PARK, BASE_18, event(2),
                "does(0, 0, '-'); does(0, 1, 'r'); worth(0, 0) = 22; worth(0, 1) = 8");
        e.edge("19: the feature makes more of it, then a repeat less", PARK, BASE_10, event(2),
                "does(0, 1, '-'); does(0, 0, '-'); does(0, 2, '-'); worth(0, 1) = 7; worth(0, 2) = 6");
    }
}
