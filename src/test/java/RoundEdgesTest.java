/** The edges of promises 29 to 31: hold, round, close. */
public final class RoundEdgesTest {
    private static final Edges e = new Edges("RoundEdgesTest");

    private static final String REFUSED = " = throws UnsupportedOperationException;";
    private static final String ILLEGAL = " = throws IllegalArgumentException;";
    private static final String NONE = " = throws IndexOutOfBoundsException;";
    private static final String NO_RUN = " = throws NoSuchElementException;";

    public static void main(String[] args) {
        holdsOfNone();
        holds();
        roundsOfNone();
        howMany();
        roundsNotBegun();
        roundsBegun();
        roundsInOrder();
        closesOfNone();
        closes();
        voids();
        closedForAll();
        closedWhileHeld();
        wholeRounds();
        scoresToClose();
        e.end();
    }

    /** A gap; trick i has the base 5 i; athletes 0 to 2 are entered in the event 0, the athlete 0 in the event 1. */
    private static String park(int edition) {
        return "feature('g', 0, 99, 0); athlete(0); athlete(1); athlete(2);"
                + Probes.each(13, "trick('n', 'o', 'f', 'u', #, 0, 0);")
                + "event('b', " + edition + ", 1); event('b', 0, 1); enter(0, 0); enter(0, 1); enter(0, 2); enter(1, 0);";
    }

    private static String run(int athlete, int trick) {
        return "start(0, " + athlete + "); does(" + trick + ", 0, '-'); end();";
    }

    private static void holdsOfNone() {
        for (String none : "2,-1,6,MAX,MIN".split(",")) {
            e.edge("29: there is no such event", park(0), "hold(" + none + ", true)" + NONE,
                "hold(" + none + ", false)" + NONE);
        }
        e.edge("29: it is closed, void too, held too", park(0), run(0, 1),
                "close(0) = true; hold(1, true); close(1) = false;",
                "hold(0, true)" + REFUSED, "hold(0, false)" + REFUSED, "hold(1, false)" + REFUSED, "hold(2, false)" + NONE);
    }

    private static void holds() {
        e.edge("29: whether it was", park(0), "hold(0, false) = false; hold(0, true) = false; hold(0, true) = true;",
                "hold(1, true) = false; hold(0, false) = true; hold(0, false) = false; hold(1, false) = true");
        e.edge("29: no run starts until it is let go", park(0), "hold(0, true);", "start(0, 0)" + REFUSED,
                "start(1, 0) = 0; end();",
                "hold(0, false); start(0, 0) = 1");
        e.edge("29: a run that is open goes on", park(0), "start(0, 0); hold(0, true) = false; does(3, 0, '-') = true;",
                "end() = 15;",
                "sum(0, 0) = 1500;", "start(0, 0)" + REFUSED);
        e.edge("29: it is held in later rounds as well", park(0), run(0, 1), "round(0, 1); hold(0, true);",
                "start(0, 0)" + REFUSED,
                "hold(0, false); start(0, 0) = 1");
    }

    private static void roundsOfNone() {
        for (String none : "2,-1,6,MAX,MIN".split(",")) {
            e.edge("30: there is no such event", park(0), run(0, 1), "round(" + none + ", 1)" + NONE);
        }
        for (String many : "0,-1,13,MAX,MIN".split(",")) {
            e.edge("30: how many athletes go on, 1 to 12", park(0), run(0, 1), run(1, 2), "round(0, " + many + ")" + ILLEGAL,
                    "starter(0, 2) = 2");
        }
        e.edge("30: of several exceptions the one listed first", park(1), run(0, 1), "round(2, 0)" + NONE,
                "round(2, 1)" + NONE,
                "round(0, 0)" + ILLEGAL, "round(0, 13)" + ILLEGAL, "round(0, 12)" + REFUSED, "hold(0, true);",
                "round(0, 13)" + ILLEGAL, "hold(0, false); strike(0); close(0) = false;", "round(0, 0)" + ILLEGAL,
                "round(2, 13)" + NONE, "round(0, 1)" + REFUSED);
    }

    private static void howMany() {
        String twelve = "feature('g', 0, 99, 0); trick('n', 'o', 'f', 'u', 1, 0, 0); event('b', 0, 1);"
                + "athlete(0); athlete(1); athlete(2); athlete(3);".repeat(3) + Probes.each(12, "enter(0, #);");
        e.edge("30: all twelve go on", twelve, Probes.each(12, "start(0, #); end();"), "round(0, 13)" + ILLEGAL,
                "round(0, 12) = 2; starter(0, 0) = 11; starter(0, 11) = 0; start(0, 11) = 12");
        e.edge("30: not twelve, if one had no run", twelve, Probes.each(11, "start(0, #); end();"), "round(0, 12)" + REFUSED,
                "round(0, 11) = 2; starter(0, 10) = 0; starter(0, 11)" + NO_RUN);
        e.edge("30: as many as there are places", park(0), run(0, 1), run(2, 2), "round(0, 3)" + REFUSED,
                "round(0, 2) = 2; starter(0, 0) = 0; starter(0, 1) = 2; starter(0, 2)" + NO_RUN);
        e.edge("30: one goes on", park(0), run(0, 1), run(2, 2),
                "round(0, 1) = 2; starter(0, 0) = 2; starter(0, 1)" + NO_RUN);
        e.edge("30: there are no places", park(0), "round(0, 1)" + REFUSED, run(0, 1), "strike(0);", "round(0, 1)" + REFUSED,
                run(0, 1), "round(0, 1) = 2");
        e.edge("30: nobody is entered", park(0), "event('b', 0, 1) = 2;", "round(2, 1)" + REFUSED);
    }

    private static void roundsNotBegun() {
        e.edge("30: the event is held", park(0), run(0, 1), "hold(0, true);", "round(0, 1)" + REFUSED,
                "hold(0, false); round(0, 1) = 2");
        e.edge("30: another event is held, closed, or a run of it is open", park(0), run(0, 1),
                "start(1, 0); hold(1, true);",
                "round(0, 1) = 2; end(); close(1); round(0, 1) = 3");
        e.edge("30: the event is closed", park(0), run(0, 1), "close(0);", "round(0, 1)" + REFUSED);
        e.edge("30: a run of it is open", park(0), run(0, 1), "start(0, 1);", "round(0, 1)" + REFUSED,
                "end(); round(0, 1) = 2");
        e.edge("30: a run that counts has no score", park(1), run(0, 1), run(1, 1), "mark(0, 0, 50);",
                "round(0, 1)" + REFUSED,
                "mark(1, 0, 50); round(0, 1) = 2");
        e.edge("30: a run that was struck out needs no score", park(1), run(0, 1), run(1, 1),
                "mark(0, 0, 50); strike(1); round(0, 1) = 2");
    }

    private static void roundsBegun() {
        e.edge("30: its number", park(0), run(0, 1), "round(0, 1) = 2; round(0, 1) = 3; round(0, 1) = 4;",
                "start(1, 0); end(); round(1, 1) = 2");
        e.edge("30: the first by places, the last one of them first", park(0), run(0, 3), run(1, 1), run(2, 2),
                "round(0, 2) = 2; starter(0, 0) = 2; starter(0, 1) = 0;", "starter(0, 2)" + NO_RUN, "start(0, 1)" + REFUSED,
                "start(0, 2) = 3; end(); start(0, 0) = 4; end()");
        e.edge("30: places are those of all athletes of the event", park(0), run(0, 3), run(1, 1), run(2, 2), "round(0, 1);",
                "round(0, 3) = 3; starter(0, 0) = 1; starter(0, 1) = 2; starter(0, 2) = 0; start(0, 1) = 3");
        e.edge("30: a draw is no order of a later round", park(0), "seed(2); draw(0);", run(0, 3), run(1, 1), run(2, 2),
                "round(0, 3); starter(0, 0) = 1; starter(0, 1) = 2; starter(0, 2) = 0");
    }

    private static void roundsInOrder() {
        e.edge("30: the order stays as places were", park(0), run(0, 3), run(1, 1),
                "round(0, 2); starter(0, 0) = 1; starter(0, 1) = 0;",
                run(1, 12), "place(0, 1) = 1; starter(0, 0) = 1; starter(0, 1) = 0; round(0, 2) = 3; starter(0, 0) = 0;",
                "starter(0, 1) = 1");
        e.edge("30: a refused round keeps the one that goes on", park(0), run(0, 3), run(1, 1), "round(0, 2);",
                "round(0, 3)" + REFUSED, "round(0, 13)" + ILLEGAL, "starter(0, 0) = 1; round(0, 1) = 3");
    }

    private static void closesOfNone() {
        for (String none : "2,-1,6,MAX,MIN".split(",")) {
            e.edge("31: there is no such event", park(0), run(0, 1), "close(" + none + ")" + NONE);
        }
    }

    private static void closes() {
        e.edge("31: it is closed", park(0), run(0, 1), "close(0) = true;", "close(0)" + REFUSED, "close(1) = false;",
                "close(1)" + REFUSED,
                "close(2)" + NONE);
        e.edge("31: a run of it is open", park(0), run(0, 1), "start(0, 1);", "close(0)" + REFUSED,
                "close(1) = false; end(); close(0) = true");
        e.edge("31: a run of it is open, held too", park(0), run(0, 1), "start(0, 1); hold(0, true);", "close(0)" + REFUSED,
                "end(); close(0) = false");
        e.edge("31: a run of it that counts has no score", park(1), run(0, 1), run(1, 1), "mark(0, 0, 50);",
                "close(0)" + REFUSED,
                "mark(1, 0, 50); close(0) = true");
        e.edge("31: a run that was struck out needs none", park(1), run(0, 1), run(1, 1),
                "mark(0, 0, 50); strike(1); close(0) = true");
        e.edge("31: not all have a run, and all count", park(0), run(0, 1),
                "close(0) = true; sum(0, 0) = 500; points(0, 0) = 100");
    }

    private static void voids() {
        e.edge("31: void without a run", park(0), "close(0) = false; points(0, 0) = 0");
        e.edge("31: void without athletes, held or not", park(0),
                "event('b', 0, 1); event('b', 0, 1); close(2) = false; hold(3, true); close(3) = false");
        e.edge("31: void without a run that counts", park(0), run(0, 1),
                "strike(0); close(0) = false; points(0, 0) = 0; list(0) = 0");
        e.edge("31: void by a hold", park(0), run(0, 1), "hold(0, true); close(0) = false; points(0, 0) = 0; list(0) = 0;",
                "score(0) = 500; parts(0) = 5; sum(0, 0)" + NO_RUN, "place(0, 0)" + NO_RUN);
        e.edge("31: an empty run counts", park(0), "start(0, 1); end(); close(0) = true; points(0, 1) = 100");
    }

    private static void closedForAll() {
        e.edge("31: behind it what changes the event is refused", park(0), run(0, 1), "close(0);", "enter(0, 0)" + REFUSED,
                "draw(0)" + REFUSED, "start(0, 0)" + REFUSED, "mark(0, 0, 50)" + REFUSED, "control(0, 0, 5)" + REFUSED,
                "strike(0)" + REFUSED, "protest(0, 0, 2)" + REFUSED, "hold(0, true)" + REFUSED, "round(0, 1)" + REFUSED,
                "close(0)" + REFUSED);
        e.edge("31: and what asks of it is answered", park(0), run(0, 1), run(1, 2),
                "close(0); starter(0, 0) = 0; worth(0, 0) = 5;",
                "parts(0) = 5; score(0) = 500; sum(0, 0) = 500; place(0, 0) = 2; heat(0, 0, 1) = 1; points(0, 0) = 80");
    }

    private static void closedWhileHeld() {
        e.edge("31: each athlete of the round has an ended run", park(0), run(0, 1), run(1, 2), run(2, 3),
                "hold(0, true); close(0) = true; points(0, 2) = 100; points(0, 0) = 60; sum(0, 0) = 500");
        e.edge("31: one athlete of the round has none", park(0), run(0, 1), run(1, 2),
                "hold(0, true); close(0) = false; points(0, 1) = 0");
        e.edge("31: let go again, all count", park(0), run(0, 1),
                "hold(0, true); hold(0, false); close(0) = true; points(0, 0) = 100");
        e.edge("31: a run that was struck out is an ended one", park(0), run(0, 1), run(1, 2), run(2, 3),
                "strike(2); hold(0, true); close(0) = true; sum(0, 1) = 1000; points(0, 1) = 100; points(0, 2) = 0;",
                "sum(0, 2)" + NO_RUN);
        e.edge("31: all were struck out", park(0), run(0, 1), run(1, 2), run(2, 3),
                "strike(0); strike(1); strike(2); hold(0, true); close(0) = false");
        e.edge("31: a second run does not stand for another athlete's", park(0), run(0, 1), run(0, 2), run(1, 1), run(1, 2),
                "hold(0, true); close(0) = false");
        e.edge("31: a run of another event is not one of the round", park(0), run(0, 1), run(1, 2),
                "enter(1, 2); start(1, 2); end();",
                "hold(0, true); close(0) = false");
    }

    private static void wholeRounds() {
        String first = park(0) + run(0, 1) + run(1, 2) + run(2, 3);
        e.edge("31: round 1 is whole, round 2 is not", first, "round(0, 2);", run(1, 12),
                "sum(0, 1) = 6000; hold(0, true); close(0) = true;",
                "sum(0, 1) = 1000; place(0, 1) = 2; points(0, 1) = 80; points(0, 2) = 100; heat(0, 1, 2) = 2;",
                "score(3) = 6000; isTrue() = true");
        e.edge("31: both rounds are whole", first, "round(0, 2);", run(1, 12), run(2, 4),
                "hold(0, true); close(0) = true; sum(0, 1) = 6000; sum(0, 2) = 2000; sum(0, 0) = 500; points(0, 1) = 100");
        e.edge("31: round 2 is whole, round 1 is not", park(0), run(0, 12), run(1, 2), "round(0, 1);", run(0, 4),
                "hold(0, true);",
                "close(0) = true; sum(0, 0) = 2000; points(0, 0) = 100; points(0, 1) = 0; sum(0, 1)" + NO_RUN,
                "isTrue() = true");
        e.edge("31: a round without a run is not whole, and takes nothing away", first, "round(0, 1); hold(0, true);",
                "close(0) = true; sum(0, 2) = 1500; points(0, 2) = 100");
        e.edge("31: a run of round 1 is none of round 2", first, run(2, 5), "round(0, 1); round(0, 1);", run(2, 6),
                "hold(0, true);",
                "close(0) = true; sum(0, 2) = 3000");
    }

    private static void scoresToClose() {
        e.edge("31: a run that then does not count needs no score", park(1), run(0, 1), run(1, 1), run(2, 1),
                "mark(0, 0, 9); mark(1, 0, 8); mark(2, 0, 7); round(0, 2);", run(0, 1), "close(0)" + REFUSED,
                "hold(0, true); close(0) = true; sum(0, 0) = 900");
        e.edge("31: a run that then counts needs one", park(1), run(0, 1), run(1, 1), run(2, 1),
                "mark(0, 0, 9); mark(1, 0, 8); hold(0, true);",
                "close(0)" + REFUSED, "mark(2, 0, 7) = 1; close(0) = true; points(0, 2) = 60");
        e.edge("31: refused while held, no run is lost", park(1), run(0, 1), run(1, 1), run(2, 1),
                "mark(0, 0, 9); mark(1, 0, 8); mark(2, 0, 7); round(0, 2);", run(0, 1), run(0, 1),
                "strike(0); mark(3, 0, 90);", run(1, 1),
                "hold(0, true);", "close(0)" + REFUSED, "mark(4, 0, 1); mark(5, 0, 1); hold(0, false) = true;",
                "close(0) = true; sum(0, 0) = 9000");
        e.edge("31: no run counts and none has a score, held", park(1), run(0, 1), run(1, 1), "close(0)" + REFUSED,
                "hold(0, true); close(0) = false");
    }
}
