/** The edges of promises 15 to 20, 35 and 36: start, does, speed, end, worth, parts; hurt, day. */
public final class RunEdgesTest {
    private static final Edges e = new Edges("RunEdgesTest");

    private static final String REFUSED = " = throws UnsupportedOperationException;";
    private static final String FALLS = "does(0, 0, 'f') = false;";

    /** A rail and a gap with lines of no loss; bases 10 and 15; the athletes 0 and 1 are entered in both events, 2 is not. */
    private static final String PARK = """
            feature('r', 0, 99, 0); feature('g', 0, 99, 0); line(0, 1, 0); line(1, 0, 0)
            trick('n', 'o', 'f', 'u', 2, 0, 0); trick('n', 'o', 'f', 'u', 3, 0, 0)
            athlete(0); athlete(1); athlete(2); event('b', 0, 1); event('b', 0, 1)
            enter(0, 0); enter(0, 1); enter(1, 0); enter(1, 1)
            """;

    public static void main(String[] args) {
        startsOfNone();
        startsInRounds();
        startsHeldOrClosed();
        startsWhileOpen();
        sixtyRuns();
        doesOfNone();
        doesWhenFull();
        doesByLines();
        doesInOrder();
        speedsThere();
        speedsHeld();
        falls();
        ends();
        askedWorths();
        injuries();
        days();
        e.end();
    }

    private static void startsOfNone() {
        for (String none : "2,-1,6,MAX,MIN".split(",")) {
            e.edge("15: there is no such event", PARK, "start(" + none + ", 0) = throws IndexOutOfBoundsException");
        }
        for (String none : "3,-1,12,MAX,MIN".split(",")) {
            e.edge("15: there is no such athlete", PARK, "start(0, " + none + ") = throws IndexOutOfBoundsException");
        }
        e.edge("15: of several exceptions the one for an event or athlete", PARK, """
                close(1); start(0, 0)
                start(2, 2) = throws IndexOutOfBoundsException
                start(1, 3) = throws IndexOutOfBoundsException
                start(0, 3) = throws IndexOutOfBoundsException
                """);
        e.edge("15: the athlete is not entered", PARK, "start(0, 2)" + REFUSED, "start(1, 2)" + REFUSED,
                "enter(1, 2) = 3;", "start(0, 2)" + REFUSED, "start(1, 2) = 0");
    }

    private static void startsInRounds() {
        e.edge("15: the athlete is not in the round", PARK, """
                start(0, 0); does(0, 0, '-'); end(); start(0, 1); end(); round(0, 1) = 2
                start(0, 1) = throws UnsupportedOperationException
                start(1, 1) = 2; end()
                start(0, 0) = 3
                """);
        e.edge("15: the athlete had 2 runs in the round", PARK,
                "start(0, 0) = 0; end(); start(0, 0) = 1; end();", "start(0, 0)" + REFUSED,
                "start(0, 1) = 2; end(); start(1, 0) = 3; end(); start(1, 0) = 4; end();", "start(1, 0)" + REFUSED);
        e.edge("15: in each round there are 2 runs anew", PARK,
                "start(0, 0) = 0; end(); start(0, 0) = 1; end(); round(0, 1) = 2; start(0, 0) = 2; end();",
                "start(0, 0) = 3; end();", "start(0, 0)" + REFUSED, "isTrue() = true");
        e.edge("15: a run of the round before is none of this one", PARK,
                "start(0, 0) = 0; end(); round(0, 1) = 2; start(0, 0) = 1; end(); start(0, 0) = 2; end();",
                "start(0, 0)" + REFUSED);
        e.edge("15: runs that were struck out were had", PARK,
                "start(0, 0); end(); start(0, 0); end(); strike(0) = 1; strike(1) = 0;", "start(0, 0)" + REFUSED);
        e.edge("15: an open run was had", PARK, "start(0, 0); end(); start(0, 0);", "start(0, 0)" + REFUSED,
                "start(0, 1) = throws IllegalStateException");
    }

    private static void startsHeldOrClosed() {
        e.edge("15: the event is held", PARK, "hold(0, true);", "start(0, 0)" + REFUSED, "start(1, 0) = 0; end();",
                "hold(0, true);", "start(0, 0)" + REFUSED, "hold(0, false); start(0, 0) = 1");
        e.edge("15: the event is closed", PARK, "start(0, 0); end(); close(0) = true;", "start(0, 0)" + REFUSED,
                "start(1, 0) = 1; end(); start(1, 1) = 2; end(); close(1) = true;", "start(1, 1)" + REFUSED);
        e.edge("15: the event is closed and void", PARK, "close(0) = false;", "start(0, 0)" + REFUSED);
        e.edge("15: the athlete is hurt", PARK, "start(0, 0);", FALLS.repeat(3), "end(); hurt(0) = 3;",
                "start(0, 0)" + REFUSED, "start(1, 0)" + REFUSED, "start(0, 1) = 1; end(); day(); day(); hurt(0) = 1;",
                "start(0, 0)" + REFUSED, "day(); hurt(0) = 0; start(0, 0) = 2");
        e.edge("15: two falls hurt nobody", PARK, "start(0, 0);", FALLS.repeat(2), "end(); start(0, 0) = 1");
    }

    private static void startsWhileOpen() {
        e.edge("15: a run is open", PARK, """
                start(0, 0) = 0
                start(0, 0) = throws IllegalStateException
                start(0, 1) = throws IllegalStateException
                start(1, 0) = throws IllegalStateException
                start(1, 1) = throws IllegalStateException
                end(); start(1, 1) = 1
                """);
        e.edge("15: of both exceptions the one for the athlete or the event", PARK, """
                start(0, 0); start(0, 2) = throws UnsupportedOperationException
                hold(0, true); start(0, 1) = throws UnsupportedOperationException
                close(1); start(1, 1) = throws UnsupportedOperationException
                hold(0, false); start(0, 1) = throws IllegalStateException
                """, FALLS.repeat(3), "hurt(0) = 3; start(0, 0) = throws UnsupportedOperationException");
    }

    /** Two runs in each round, so many runs in all. */
    private static String runs(int many) {
        StringBuilder told = new StringBuilder();
        for (int i = 0; i < many; i++) {
            told.append(i > 0 && i % 2 == 0 ? "round(0, 1);" : "").append("start(0, 0) = ").append(i).append("; end();");
        }
        return told.toString();
    }

    private static void sixtyRuns() {
        e.edge("15: at most 60 runs are numbered from 0", PARK, runs(60), """
                start(0, 0) = throws UnsupportedOperationException
                round(0, 1) = 31
                start(0, 0) = throws IllegalStateException
                start(1, 1) = throws IllegalStateException
                parts(59) = 0; parts(60) = throws IndexOutOfBoundsException
                """);
        e.edge("15: the sixtieth run", PARK, runs(59),
                "parts(59) = throws IndexOutOfBoundsException; start(1, 0) = 59; does(0, 0, '-') = true; end() = 14;",
                "start(1, 0) = throws IllegalStateException");
        e.edge("15: of both exceptions with 60 runs the one listed first", PARK, runs(60), """
                start(1, 2) = throws UnsupportedOperationException
                hold(1, true); start(1, 0) = throws UnsupportedOperationException
                start(2, 0) = throws IndexOutOfBoundsException
                start(1, 3) = throws IndexOutOfBoundsException
                hold(1, false); start(1, 0) = throws IllegalStateException
                strike(59) = 59; start(1, 0) = throws IllegalStateException
                """);
    }

    private static void doesOfNone() {
        for (String none : "2,-1,60,MAX,MIN".split(",")) {
            e.edge("16: there is no such trick", PARK, "start(0, 0); does(0, 0, '-');",
                    "does(" + none + ", 1, '-') = throws IndexOutOfBoundsException", "does(1, 1, '-') = true");
        }
        for (String none : "2,-1,10,MAX,MIN".split(",")) {
            e.edge("16: there is no such feature", PARK, "start(0, 0); does(0, 0, '-');",
                    "does(0, " + none + ", '-') = throws IndexOutOfBoundsException", "does(1, 1, '-') = true");
        }
        for (String fault : "'g','i','q','s','e','H','R','F',0,65535,44,46,301".split(",")) {
            e.edge("16: there is no such fault", PARK, "start(0, 0); does(0, 0, '-');",
                    "does(0, 1, " + fault + ") = throws IllegalArgumentException");
        }
        e.edge("16: 'h', 'r', 'f' or '-'", PARK, "start(0, 0); does(0, 0, 'h') = true; does(0, 1, 'r') = true;",
                "does(0, 0, '-') = true; does(0, 1, 'f') = false; speed() = 30");
        e.edge("16: no run is open", PARK, """
                does(0, 0, '-') = throws IllegalStateException
                start(0, 0); does(0, 0, '-') = true; end()
                does(0, 1, '-') = throws IllegalStateException
                """);
    }

    private static void doesWhenFull() {
        e.edge("16: a run has at most 10 tricks", PARK, "start(0, 0);",
                "does(0, 0, '-') = true; does(1, 1, '-') = true;".repeat(5), """
                does(0, 0, '-') = throws IllegalStateException
                does(0, 0, 'f') = throws IllegalStateException
                worth(0, 9) = 0; worth(0, 10) = throws NoSuchElementException
                end() = 29; start(0, 0) = 1; does(0, 0, '-') = true
                """);
        e.edge("16: the tenth trick", PARK, "start(0, 0);", Probes.each(4, "does(0, 0, '-'); does(0, 1, '-');"),
                "does(0, 0, '-') = true; worth(0, 9) = throws NoSuchElementException;",
                "does(1, 1, '-') = true; worth(0, 9) = 15; does(1, 0, '-') = throws IllegalStateException");
        e.edge("16: falls are tricks, too", PARK, "start(0, 0);", FALLS.repeat(10),
                "does(0, 0, 'f') = throws IllegalStateException; hurt(0) = 10; end() = 0");
    }

    private static void doesByLines() {
        e.edge("16: no line leads there", PARK, "feature('g', 0, 99, 0) = 2; line(2, 0, 0); start(0, 0);",
                "does(0, 0, '-') = true;", "does(0, 2, '-')" + REFUSED, "does(0, 0, '-')" + REFUSED,
                "does(0, 2, 'f')" + REFUSED, "speed() = 30; does(1, 1, '-') = true;", "does(0, 2, '-')" + REFUSED,
                "does(0, 1, '-')" + REFUSED, "does(1, 0, '-') = true; parts(0) = 29");
        e.edge("16: a line leads one way", PARK, "feature('g', 0, 99, 0) = 2; line(2, 0, 0); start(0, 0);",
                "does(0, 2, '-') = true; does(0, 0, '-') = true;", "does(0, 2, '-')" + REFUSED);
        e.edge("16: the first is done anywhere", PARK, "feature('g', 0, 99, 0) = 2; start(0, 0);",
                "does(0, 2, '-') = true; end() = 10; start(0, 0); does(0, 0, '-') = true");
        e.edge("16: behind a fall the next is done anywhere", PARK, "feature('g', 0, 99, 0) = 2; start(0, 0);",
                FALLS, "does(1, 0, '-') = true;", "does(1, 2, 'f')" + REFUSED,
                "does(0, 1, 'f') = false; does(0, 2, '-') = true;", "does(0, 1, '-')" + REFUSED);
    }

    private static void doesInOrder() {
        e.edge("16: of several exceptions with no run open the one listed first", PARK, """
                does(2, 0, 'x') = throws IndexOutOfBoundsException
                does(0, 2, 'x') = throws IndexOutOfBoundsException
                does(0, 2, '-') = throws IndexOutOfBoundsException
                does(0, 0, 'x') = throws IllegalArgumentException
                does(0, 0, '-') = throws IllegalStateException
                """);
        e.edge("16: of several exceptions without a line the one listed first", PARK, "start(0, 0); does(0, 0, '-');", """
                does(2, 0, 'x') = throws IndexOutOfBoundsException
                does(2, 0, '-') = throws IndexOutOfBoundsException
                does(0, 0, 'x') = throws IllegalArgumentException
                does(0, 0, '-') = throws UnsupportedOperationException
                """);
        e.edge("16: of several exceptions with 10 tricks the one listed first", PARK, "start(0, 0);",
                "does(0, 0, '-'); does(0, 1, '-');".repeat(5), """
                does(0, 2, 'x') = throws IndexOutOfBoundsException
                does(0, 1, 'x') = throws IllegalArgumentException
                does(0, 1, '-') = throws IllegalStateException
                """);
    }

    /** A trick, an athlete and an event; features are to be told ahead of it. */
    private static final String RIDER =
            "; trick('n', 'o', 'f', 'u', 2, 0, 0); athlete(0); event('b', 0, 1); enter(0, 0); start(0, 0);";

    private static void speedsThere() {
        e.edge("16: at the least speed", "feature('r', 30, 99, 0)", RIDER, "does(0, 0, '-') = true");
        e.edge("16: less than the least", "feature('r', 31, 99, 0)", RIDER, "does(0, 0, '-') = false");
        e.edge("16: at the greatest speed", "feature('r', 0, 30, 0)", RIDER, "does(0, 0, '-') = true");
        e.edge("16: more than the greatest", "feature('r', 0, 29, 0)", RIDER, "does(0, 0, '-') = false");
        e.edge("16: at the least behind a line and its loss", "feature('r', 0, 99, -3); feature('g', 22, 99, 4);",
                "line(0, 1, 5)", RIDER, "does(0, 0, '-'); speed() = 27; does(0, 1, '-') = true; speed() = 26");
        e.edge("16: less than the least behind a line", "feature('r', 0, 99, -3); feature('g', 23, 99, 4);",
                "line(0, 1, 5)", RIDER, "does(0, 0, '-'); does(0, 1, '-') = false; speed() = 30");
        e.edge("16: at the greatest behind a line", "feature('r', 0, 99, -3); feature('g', 0, 22, 4);",
                "line(0, 1, 5)", RIDER, "does(0, 0, '-'); does(0, 1, 'h') = true; speed() = 26");
        e.edge("16: more than the greatest behind a line", "feature('r', 0, 99, -3); feature('g', 0, 21, 4);",
                "line(0, 1, 5)", RIDER, "does(0, 0, '-'); does(0, 1, 'r') = false; speed() = 30");
        e.edge("16: at first there is no line and no loss", "feature('r', 30, 30, 0); feature('r', 30, 30, 0);",
                "line(0, 1, 20); line(1, 0, 20)", RIDER, "does(0, 1, '-') = true; does(0, 0, '-') = false");
        e.edge("16: behind a fall there is no line and no loss", "feature('r', 30, 30, 0); feature('r', 30, 30, 0);",
                "line(0, 1, 20)", RIDER, "does(0, 0, 'f') = false; does(0, 1, '-') = true; speed() = 30");
    }

    private static void speedsHeld() {
        e.edge("17: no run is open", PARK, "speed() = throws IllegalStateException;",
                "start(0, 0); speed() = 30; end(); speed() = throws IllegalStateException");
        String fast = "feature('r', 0, 99, 20); feature('r', 0, 99, 20); line(0, 1, 0); line(1, 0, 0);";
        e.edge("17: speeds are held within 99", fast, RIDER, "does(0, 0, '-'); does(0, 1, '-'); does(0, 0, '-');",
                "speed() = 90; does(0, 1, '-') = true; speed() = 99; does(0, 0, '-') = true; speed() = 99");
        e.edge("17: the loss is from the speed that was held", fast, "feature('g', 98, 98, 0); line(1, 2, 1)", RIDER,
                "does(0, 0, '-'); does(0, 1, '-'); does(0, 0, '-'); does(0, 1, '-'); does(0, 2, '-') = true; speed() = 98");
        e.edge("17: 99 without being held", fast, "feature('g', 0, 99, 9); line(1, 2, 0); line(2, 1, 0)", RIDER,
                "does(0, 0, '-'); does(0, 1, '-'); does(0, 2, '-'); speed() = 79; does(0, 1, '-'); speed() = 99");
        String slow = "feature('r', 0, 99, -20); feature('r', 0, 99, -20); line(0, 1, 0); line(1, 0, 0);";
        e.edge("17: speeds are held within 0", slow, RIDER,
                "does(0, 0, '-'); speed() = 10; does(0, 1, '-') = true; speed() = 0; does(0, 0, '-') = true; speed() = 0");
        e.edge("17: the speed there is held within 0, too", slow, "feature('g', 0, 0, 7); line(0, 2, 20)", RIDER,
                "does(0, 0, '-'); speed() = 10; does(0, 2, '-') = true; speed() = 7");
        e.edge("17: a loss of all of the speed", slow, "feature('g', 0, 0, 7); line(0, 2, 10)", RIDER,
                "does(0, 0, '-'); does(0, 2, '-') = true; speed() = 7");
        e.edge("17: a loss of less than the speed", slow, "feature('g', 0, 0, 7); line(0, 2, 9)", RIDER,
                "does(0, 0, '-'); does(0, 2, '-') = false; speed() = 30");
        e.edge("17: a gain of less than there is", slow, "feature('g', 0, 99, -9); line(0, 2, 0); line(2, 1, 0)", RIDER,
                "does(0, 0, '-'); does(0, 2, '-'); speed() = 1; does(0, 1, '-') = true; speed() = 0");
    }

    private static void falls() {
        for (String fault : "'-','h','r','f'".split(",")) {
            e.edge("16: it is a fall whatever was told", "feature('r', 31, 99, 20);", RIDER,
                    "does(0, 0, " + fault + ") = false; speed() = 30; worth(0, 0) = 0; fallShare() = 1.0; end() = 0");
        }
        e.edge("16: a told fall at a speed that clears it", "feature('r', 0, 99, 20);", RIDER,
                "does(0, 0, 'f') = false; speed() = 30; worth(0, 0) = 0; does(0, 0, '-') = true; speed() = 50");
    }

    private static void ends() {
        e.edge("18: no run is open", PARK, "end() = throws IllegalStateException;",
                "start(0, 0); end() = 0; end() = throws IllegalStateException; parts(0) = 0");
        e.edge("18: the parts, those of falls and repeats as well", PARK,
                "start(0, 0); does(0, 0, '-'); does(1, 1, 'h'); does(0, 0, '-'); does(1, 1, 'f'); end() = 25");
    }

    private static void askedWorths() {
        String ridden = "start(0, 0); does(0, 0, '-'); does(1, 1, '-'); end() = 29; start(0, 1);";
        for (String none : "2,-1,60,MAX,MIN".split(",")) {
            e.edge("19: there is no such run", PARK, ridden, "worth(" + none + ", 0) = throws IndexOutOfBoundsException",
                    "worth(" + none + ", -1) = throws IndexOutOfBoundsException", "worth(0, 1) = 15");
            e.edge("20: there is no such run", PARK, ridden, "parts(" + none + ") = throws IndexOutOfBoundsException",
                    "parts(0) = 29; parts(1) = 0");
        }
        for (String none : "2,-1,10,MAX,MIN".split(",")) {
            e.edge("19: there is no such trick", PARK, ridden, "worth(0, " + none + ") = throws NoSuchElementException",
                    "worth(1, 0) = throws NoSuchElementException; does(0, 0, '-'); worth(1, 0) = 14");
        }
        e.edge("20: the parts of a run that is open", PARK, "start(0, 0); parts(0) = 0; does(0, 0, '-'); parts(0) = 14;",
                "does(1, 1, '-'); parts(0) = 29; end() = 29; parts(0) = 29");
        e.edge("20: no runs", PARK, "parts(0) = throws IndexOutOfBoundsException;",
                "worth(0, 0) = throws IndexOutOfBoundsException");
    }

    private static void injuries() {
        for (String none : "3,-1,12,MAX,MIN".split(",")) {
            e.edge("35: there is no such athlete", PARK, "hurt(" + none + ") = throws IndexOutOfBoundsException",
                "hurt(2) = 0");
        }
        e.edge("35: the third fall in an event, and further ones", PARK, "start(0, 0);",
                FALLS, "hurt(0) = 0;", FALLS, "hurt(0) = 0;", FALLS, "hurt(0) = 3; hurt(1) = 0;", FALLS, "hurt(0) = 4");
        e.edge("35: falls are counted over the runs of an event", PARK, "start(0, 0);", FALLS.repeat(2),
                "end(); start(0, 0); hurt(0) = 0;", FALLS, "hurt(0) = 3");
        e.edge("35: falls are counted over its rounds", PARK, "start(0, 0);", FALLS.repeat(2),
                "end(); round(0, 1); start(0, 0);", FALLS, "hurt(0) = 3");
        e.edge("35: falls are counted for each event", PARK, "start(0, 0);", FALLS.repeat(2),
                "end(); start(1, 0);", FALLS.repeat(2), "hurt(0) = 0;", FALLS, "hurt(0) = 3");
        e.edge("35: falls are counted for each athlete", PARK, "start(0, 0);", FALLS.repeat(2),
                "end(); start(0, 1);", FALLS, "hurt(0) = 0; hurt(1) = 0;", FALLS.repeat(2), "hurt(0) = 0; hurt(1) = 3");
        e.edge("35: falls by the speed are some, too", "feature('r', 31, 99, 0);", RIDER,
                "does(0, 0, '-'); does(0, 0, 'h'); does(0, 0, 'r'); hurt(0) = 3");
        e.edge("35: falls of a run that was struck out were had", PARK, "start(0, 0);", FALLS.repeat(2),
                "end(); strike(0); start(0, 0);", FALLS, "hurt(0) = 3");
        e.edge("35: a run that is open goes on", PARK, "start(0, 0);", FALLS.repeat(3),
                "does(0, 0, '-') = true; does(1, 1, '-') = true; end() = 15; hurt(0) = 3; parts(0) = 15");
    }

    private static void days() {
        e.edge("36: a day goes by", "day() = 1; day() = 2; day() = 3");
        e.edge("35: a day less, and never less than none", PARK, "start(0, 0);", FALLS.repeat(3), """
                hurt(0) = 3; day() = 1; hurt(0) = 2; day() = 2; hurt(0) = 1; day() = 3; hurt(0) = 0
                day() = 4; hurt(0) = 0
                """, FALLS, "hurt(0) = 4; day() = 5; hurt(0) = 3;", FALLS, "hurt(0) = 5");
    }
}
