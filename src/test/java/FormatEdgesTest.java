/** The edges of promises 26 to 28: sum, place, heat. */
public final class FormatEdgesTest {
    private static final Edges e = new Edges("FormatEdgesTest");

    private static final String UNSCORED = " = throws UnsupportedOperationException;";
    private static final String NO_RUN = " = throws NoSuchElementException;";
    private static final String NONE = " = throws IndexOutOfBoundsException;";

    public static void main(String[] args) {
        asksOfNone();
        asksWithoutRun();
        asksWithoutScore();
        asksWithBoth();
        bestRuns();
        bestTricksInOthers();
        bestRunLeftOut();
        threeTricks();
        likeTricks();
        countedRuns();
        places();
        likePlaces();
        heatsOfNone();
        heatsWithoutRun();
        heats();
        e.end();
    }

    /** A gap 0 and a rail 1; trick i has the base 5 i; athletes 0 to 3 are entered in the event 0, 4 is not. */
    private static String park(char format, int edition) {
        return """
                feature('g', 0, 99, 0); feature('r', 0, 99, 0); line(0, 1, 0); line(1, 0, 0)
                athlete(0); athlete(1); athlete(2); athlete(3); athlete(0)
                """ + Probes.each(13, "trick('n', 'o', 'f', 'u', #, 0, 0);")
                + "event('" + format + "', " + edition + ", 1); enter(0, 0); enter(0, 1); enter(0, 2); enter(0, 3);";
    }

    /** A run with tricks on the gap and the rail by turns. */
    private static String run(int athlete, int... tricks) {
        StringBuilder told = new StringBuilder("start(0, " + athlete + ");");
        for (int i = 0; i < tricks.length; i++) {
            told.append("does(").append(tricks[i]).append(", ").append(i % 2).append(", '-');");
        }
        return told.append("end();").toString();
    }

    private static void asksOfNone() {
        for (String ask : "sum,place".split(",")) {
            for (String none : "1,-1,6,MAX,MIN".split(",")) {
                e.edge("26, 27: there is no such event", park('b', 0), run(0, 1), ask + "(" + none + ", 0)" + NONE);
            }
            for (String none : "5,-1,12,MAX,MIN".split(",")) {
                e.edge("26, 27: there is no such athlete", park('b', 0), run(0, 1), ask + "(0, " + none + ")" + NONE);
            }
        }
    }

    private static void asksWithoutRun() {
        for (String ask : "sum,place".split(",")) {
            e.edge("26, 27: the athlete is not entered", park('b', 0), run(0, 1), ask + "(0, 4)" + NO_RUN);
            e.edge("26, 27: the athlete has no run, an open one, one that was struck out", park('b', 0), run(0, 1),
                    ask + "(0, 1)" + NO_RUN, "start(0, 1);", ask + "(0, 1)" + NO_RUN, "end();", ask + "(0, 1);",
                    "strike(1);", ask + "(0, 1)" + NO_RUN, run(1, 2), ask + "(0, 1)");
            e.edge("26, 27: the athlete has a run in another event", park('b', 0), "event('b', 0, 1); enter(1, 0);",
                    run(0, 1), ask + "(1, 0)" + NO_RUN);
            e.edge("26, 27: the event is closed without a run that counts", park('b', 0), run(0, 1),
                    "hold(0, true);", ask + "(0, 0); close(0) = false;", ask + "(0, 0)" + NO_RUN);
        }
        e.edge("26, 27: an empty run counts", park('b', 0), run(3), "sum(0, 3) = 0; place(0, 3) = 1");
    }

    private static void asksWithoutScore() {
        for (String ask : "sum,place".split(",")) {
            e.edge("26, 27: a run of the event that counts has no score", park('b', 1), run(0, 1), run(1, 1),
                    "mark(0, 0, 50);", ask + "(0, 0)" + UNSCORED, ask + "(0, 1)" + UNSCORED, "mark(1, 0, 60);",
                    ask + "(0, 0); sum(0, 0) = 5000; place(0, 0) = 2");
            e.edge("26, 27: an open run and one that was struck out need no score", park('j', 1), run(0, 1), run(1, 1),
                    "mark(0, 0, 50);", ask + "(0, 0)" + UNSCORED, "strike(1);", ask + "(0, 0); start(0, 1);",
                    ask + "(0, 0); end();", ask + "(0, 0)" + UNSCORED);
            e.edge("26, 27: a run of another event needs none", park('b', 1), "event('b', 1, 1); enter(1, 0);", run(0, 1),
                    "mark(0, 0, 50); start(1, 0); end();", ask + "(0, 0);", ask + "(1, 0)" + UNSCORED);
            e.edge("26, 27: a run that does not count as the event was closed needs none", park('b', 1), run(0, 1), run(1,
                1),
                    run(2, 1), run(3, 1), "mark(0, 0, 9); mark(1, 0, 8); mark(2, 0, 7); mark(3, 0, 6); round(0, 2);",
                    run(0, 1), ask + "(0, 0)" + UNSCORED, "hold(0, true); close(0) = true;", ask + "(0, 0); sum(0, 0) = 900");
        }
    }

    private static void asksWithBoth() {
        for (String ask : "sum,place".split(",")) {
            e.edge("26, 27: of several exceptions the one listed first", park('b', 1), run(0, 1),
                    ask + "(1, 5)" + NONE, ask + "(1, 1)" + NONE, ask + "(0, 5)" + NONE, ask + "(0, 1)" + NO_RUN,
                    ask + "(0, 4)" + NO_RUN, ask + "(0, 0)" + UNSCORED);
        }
    }

    private static void bestRuns() {
        e.edge("26: 'b', the best score of the runs that count", park('b', 0), run(0, 3), "sum(0, 0) = 1500;",
                run(0, 2, 3), "sum(0, 0) = 2900; strike(1); sum(0, 0) = 1500");
        e.edge("26: 'b', the best one is the first or the last", park('b', 0), run(0, 4), run(0, 3), run(1, 3), run(1, 4),
                "sum(0, 0) = 2000; sum(0, 1) = 2000");
        e.edge("26: 'b', scores below 0", park('b', 1), run(0), run(0), "mark(0, 0, 3); mark(1, 0, 5);",
                "control(0, 0, 50); sum(0, 0) = -4500; place(0, 0) = 1; isTrue() = true");
    }

    private static void bestTricksInOthers() {
        e.edge("26: 's', without others", park('s', 0), run(0, 12, 11), "sum(0, 0) = 11900; isTrue() = true");
        e.edge("26: 's', an empty other", park('s', 0), run(0, 12, 11), run(0), "sum(0, 0) = 11900");
        e.edge("26: 's', one trick in the others", park('s', 0), run(0, 12, 11), run(0, 1), "sum(0, 0) = 12400");
        e.edge("26: 's', two tricks in the others", park('s', 0), run(0, 12, 11), run(0, 1, 2), "sum(0, 0) = 13800");
        e.edge("26: 's', the two best of three in two others", park('s', 0), run(0, 12, 11), run(0, 1, 2),
                "round(0, 1);", run(0, 3), "sum(0, 0) = 14800; strike(1); sum(0, 0) = 13400");
        e.edge("26: 's', by sight", park('s', 1), run(0, 12), run(0, 10, 9, 8), "mark(0, 0, 2); mark(1, 0, 1);",
                "sum(0, 0) = 10100; mark(1, 0, 3); sum(0, 0) = 6300");
        e.edge("26: 's', below 0", park('s', 1), run(0, 12), "mark(0, 0, 0); control(0, 0, 50); sum(0, 0) = -5000;",
                run(0, 1), "mark(1, 0, 0); sum(0, 0) = -4500; isTrue() = true");
    }

    private static void bestRunLeftOut() {
        e.edge("26: 's', of like ones the earliest is left out", park('s', 1), run(0, 12), run(0, 1),
                "mark(0, 0, 7); mark(1, 0, 7); sum(0, 0) = 1200; isTrue() = true");
        e.edge("26: 's', the later one, if it is better", park('s', 1), run(0, 12), run(0, 1),
                "mark(0, 0, 7); mark(1, 0, 8); sum(0, 0) = 6800");
        e.edge("26: 's', the earliest that counts", park('s', 1), run(0, 12), run(0, 1), "round(0, 1)" + UNSCORED,
                "mark(0, 0, 7); mark(1, 0, 7); round(0, 1);", run(0, 2), "mark(2, 0, 7);",
                "sum(0, 0) = 2200; strike(0); sum(0, 0) = 1700");
        e.edge("26: 's', a trick of the best run may be in the others as well", park('s', 0), run(0, 12, 11), run(0, 12),
                "sum(0, 0) = 17900");
    }

    private static void threeTricks() {
        e.edge("26: 'j', no tricks", park('j', 0), run(0), "sum(0, 0) = 0; place(0, 0) = 1");
        e.edge("26: 'j', one trick, that of the number 0, too", park('j', 0), run(0, 2), "sum(0, 0) = 1000;",
                "start(0, 1); does(0, 1, '-'); end() = 4; sum(0, 1) = 400; isTrue() = true");
        e.edge("26: 'j', two tricks", park('j', 0), run(0, 2), run(0, 3), "sum(0, 0) = 2500");
        e.edge("26: 'j', three tricks in one run", park('j', 0), run(0, 2, 3, 4), "sum(0, 0) = 4900; isTrue() = true");
        e.edge("26: 'j', the three best of four", park('j', 0), run(0, 2, 3, 4), run(0, 5),
                "sum(0, 0) = 6400; strike(1); sum(0, 0) = 4900");
        e.edge("26: 'j', of four, the first is the least or the last", park('j', 0), run(0, 5), run(0, 2), "round(0, 1);",
                run(0, 3), run(0, 4), "sum(0, 0) = 6000; strike(0); sum(0, 0) = 4500");
        e.edge("26: 'j', tricks of base 0 and falls bring nothing", park('j', 0),
                "start(0, 0); does(12, 0, 'f'); does(0, 0, '-'); does(2, 1, 'h'); end(); sum(0, 0) = 1000");
    }

    private static void likeTricks() {
        e.edge("26: of like tricks the best alone", park('j', 0), run(0, 5), run(0, 5), "sum(0, 0) = 2500");
        e.edge("26: of like tricks with faults the best alone", park('j', 0),
                "start(0, 0); does(5, 0, 'h'); end(); start(0, 0); does(5, 0, 'r'); end(); sum(0, 0) = 2000;",
                "start(0, 1); does(5, 0, 'r'); end(); start(0, 1); does(5, 0, 'f'); end(); sum(0, 1) = 2000");
        e.edge("26: as if it were no repeat", park('j', 0), run(0, 5, 5), "parts(0) = 25; sum(0, 0) = 2900");
        e.edge("26: as if it were no repeat, worth half", park('j', 2), run(0, 5, 5), "parts(0) = 39; sum(0, 0) = 2900");
        e.edge("26: as if it were no repeat, with its fault", park('j', 0),
                "start(0, 0); does(5, 0, 'f'); does(5, 0, '-'); end() = 0; sum(0, 0) = 2500;",
                "start(0, 1); does(5, 0, 'f'); does(5, 1, 'h'); end() = 0; sum(0, 1) = 2100");
        e.edge("26: 's', like tricks in two others", park('s', 1), run(0, 12), run(0, 5, 4), "mark(0, 0, 9); mark(1, 0, 8);",
                "round(0, 1);", run(0, 5, 1), "mark(2, 0, 7); sum(0, 0) = 5800; protest(2, 0, 6); sum(0, 0) = 6400");
        e.edge("26: by a protest they are like", park('j', 0), run(0, 5), run(0, 4),
                "sum(0, 0) = 4500; protest(1, 0, 5); sum(0, 0) = 2500");
    }

    private static void countedRuns() {
        e.edge("26: runs of all rounds count together", park('b', 0), run(0, 5), "round(0, 1);", run(0, 4),
                "sum(0, 0) = 2500");
        e.edge("26: an open run does not count", park('j', 0), run(0, 5),
                "start(0, 0); does(12, 0, '-'); sum(0, 0) = 2500; end(); sum(0, 0) = 8500");
        e.edge("26: runs of an athlete, not of others", park('j', 0), run(0, 5), run(1, 12),
                "sum(0, 0) = 2500; sum(0, 1) = 6000");
    }

    private static void places() {
        e.edge("27: higher first", park('b', 0), run(0, 1), run(1, 2), run(2, 3),
                "place(0, 0) = 3; place(0, 1) = 2; place(0, 2) = 1; place(0, 3)" + NO_RUN);
        e.edge("27: only athletes with a run that counts have places", park('b', 0), run(0, 9), run(1, 2), run(3, 1),
                "place(0, 3) = 3; strike(0); place(0, 3) = 2; place(0, 1) = 1; strike(1); place(0, 3) = 1");
        e.edge("27: the twelfth place", "feature('g', 0, 99, 0);", Probes.each(13, "trick('n', 'o', 'f', 'u', #, 0, 0);"),
                "event('b', 0, 1); athlete(0); athlete(1); athlete(2); athlete(3);",
                "athlete(0); athlete(1); athlete(2); athlete(3);".repeat(2), Probes.each(12, "enter(0, #);"),
                Probes.each(12, "start(0, #); does(#, 0, '-'); end();"), "place(0, 0) = 12; place(0, 11) = 1; place(0, 5) = 7");
    }

    private static void likePlaces() {
        e.edge("27: like ones by the number of the first run", park('b', 0), run(2, 5), run(0, 5), run(1, 5),
                "place(0, 2) = 1; place(0, 0) = 2; place(0, 1) = 3");
        e.edge("27: the first run that counts, not the best one", park('b', 0), run(2, 1), run(0, 5), run(2, 5),
                "place(0, 2) = 1; place(0, 0) = 2; strike(0); place(0, 2) = 2; place(0, 0) = 1");
        e.edge("27: like ones by the best score", park('j', 0), run(0, 2), run(0, 4, 0), run(1, 2, 3), run(2, 4, 0, 2),
                "sum(0, 0) = 3400; sum(0, 1) = 2900; sum(0, 2) = 3400; place(0, 0) = 2; place(0, 2) = 1; place(0, 1) = 3");
        e.edge("27: the sum before the best score", park('j', 0), run(0, 12), run(1, 9), run(1, 8),
                "score(0) = 6000; score(1) = 4500; place(0, 1) = 1; place(0, 0) = 2");
        e.edge("27: the best score before the first run", park('j', 1), run(0, 4), run(1, 4), run(2, 4),
                "mark(0, 0, 10); mark(1, 0, 30); mark(2, 0, 30); place(0, 0) = 3; place(0, 1) = 1; place(0, 2) = 2");
    }

    private static void heatsOfNone() {
        for (String none : "1,-1,6,MAX,MIN".split(",")) {
            e.edge("28: there is no such event", park('b', 0), run(0, 1), run(1, 1), "heat(" + none + ", 0, 1)" + NONE);
        }
        for (String none : "5,-1,12,MAX,MIN".split(",")) {
            e.edge("28: there is no such athlete, for either", park('b', 0), run(0, 1), run(1, 1),
                    "heat(0, 0, " + none + ")" + NONE, "heat(0, " + none + ", 0)" + NONE,
                    "heat(0, " + none + ", " + none + ")" + NONE);
        }
        e.edge("28: both are the same", park('b', 0), run(0, 1), """
                heat(0, 0, 0) = throws IllegalArgumentException
                heat(0, 3, 3) = throws IllegalArgumentException
                heat(0, 4, 4) = throws IllegalArgumentException
                """);
    }

    private static void heatsWithoutRun() {
        e.edge("28: one of them has no ended run that counts", park('b', 0), run(0, 1),
                "heat(0, 0, 1)" + NO_RUN, "heat(0, 1, 0)" + NO_RUN, "heat(0, 0, 4)" + NO_RUN, "heat(0, 4, 0)" + NO_RUN,
                "heat(0, 1, 2)" + NO_RUN, "start(0, 1);", "heat(0, 0, 1)" + NO_RUN, "end(); heat(0, 0, 1) = 0; strike(1);",
                "heat(0, 0, 1)" + NO_RUN, "heat(0, 1, 0)" + NO_RUN);
        e.edge("28: a run of the event that counts has no score", park('b', 1), run(0, 1), run(1, 1), run(2, 1),
                "mark(0, 0, 50); mark(1, 0, 40);", "heat(0, 0, 1)" + UNSCORED,
                "strike(2); heat(0, 0, 1) = 0; heat(0, 1, 0) = 0");
        e.edge("28: of several exceptions the one listed first", park('b', 1), run(0, 1), run(1, 1), "heat(1, 5, 5)" + NONE,
                "heat(0, 5, 5)" + NONE, "heat(1, 0, 0)" + NONE, "heat(0, 0, 0) = throws IllegalArgumentException;",
                "heat(0, 2, 2) = throws IllegalArgumentException;", "heat(0, 0, 2)" + NO_RUN, "heat(0, 0, 1)" + UNSCORED);
    }

    private static void heats() {
        e.edge("28: of the last runs the higher score wins", park('b', 0), run(0, 9), run(1, 3), run(1, 4), run(0, 3),
                "heat(0, 0, 1) = 1; heat(0, 1, 0) = 1; place(0, 0) = 1");
        e.edge("28: of the last runs that count", park('b', 0), run(0, 9), run(1, 5), run(0, 4),
                "heat(0, 0, 1) = 1; strike(2);",
                "heat(0, 0, 1) = 0; round(0, 2); start(0, 0); heat(0, 0, 1) = 0; end(); heat(0, 0, 1) = 1");
        e.edge("28: of the last runs, of whatever rounds", park('b', 0), run(0, 9), run(1, 5), "round(0, 1);", run(0, 4),
                "heat(0, 0, 1) = 1");
        e.edge("28: of like ones who is placed better", park('b', 0), run(0, 5), run(1, 9), run(1, 5),
                "heat(0, 0, 1) = 1; heat(0, 1, 0) = 1; place(0, 1) = 1");
        e.edge("28: of like ones with like sums, too", park('b', 0), run(1, 5), run(0, 5),
                "heat(0, 0, 1) = 1; heat(0, 1, 0) = 1; strike(0);", run(1, 5), "heat(0, 0, 1) = 0; heat(0, 1, 0) = 0");
        e.edge("28: scores one apart", park('b', 1), run(0, 5), run(1, 5),
                "mark(0, 0, 7); mark(1, 0, 8); heat(0, 0, 1) = 1;",
                "mark(0, 0, 8); heat(0, 0, 1) = 0; mark(0, 0, 9); heat(0, 0, 1) = 0");
    }
}
