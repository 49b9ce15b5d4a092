/** The edges of promises 9 to 14 and 39: athlete, quota, event, enter, draw, starter, seed. */
public final class EntryEdgesTest {
    private static final Edges e = new Edges("EntryEdgesTest");

    private static final String REFUSED = " = throws UnsupportedOperationException;";

    /** Athletes 0 to 4 of the nation 0, 5 of the nation 1; an event of which 0 and 5 are, and one of nobody. */
    private static final String PARK = """
            feature('r', 0, 99, 0); trick('n', 'o', 'f', 'u', 2, 0, 0)
            athlete(0); athlete(0); athlete(0); athlete(0); athlete(0); athlete(1)
            event('b', 0, 1); event('b', 0, 1)
            enter(0, 0) = 1; enter(0, 5) = 2
            """;

    public static void main(String[] args) {
        athletes();
        quotas();
        events();
        eventsFull();
        entering();
        quotaKept();
        enteringLate();
        drawing();
        drawnOrders();
        starters();
        seeds();
        e.end();
    }

    private static void athletes() {
        e.edge("9: nations, 0 to 3", """
                athlete(-1) = throws IllegalArgumentException
                athlete(MIN) = throws IllegalArgumentException
                athlete(0) = 0
                athlete(4) = throws IllegalArgumentException
                athlete(MAX) = throws IllegalArgumentException
                athlete(3) = 1
                """);
        e.edge("9: at most 12 athletes are numbered from 0", Probes.each(12, "athlete(0) = #;"), """
                athlete(0) = throws IllegalStateException
                athlete(3) = throws IllegalStateException
                list(11) = 0; list(12) = throws IndexOutOfBoundsException
                """);
        e.edge("9: of both exceptions the one for a wrong argument", Probes.each(12, "athlete(0);"), """
                athlete(4) = throws IllegalArgumentException
                athlete(-1) = throws IllegalArgumentException
                athlete(0) = throws IllegalStateException
                """);
    }

    private static void quotas() {
        e.edge("10: the quota is 1 or more", PARK, """
                quota(0) = throws IllegalArgumentException
                quota(-1) = throws IllegalArgumentException
                quota(MIN) = throws IllegalArgumentException
                quota(1) = 3; quota(1) = 1
                """);
        e.edge("10: the quota is 4 or less", PARK, """
                quota(5) = throws IllegalArgumentException
                quota(MAX) = throws IllegalArgumentException
                quota(4) = 3; quota(4) = 4
                """);
        e.edge("10: the one before", "quota(2) = 3; quota(3) = 2; quota(1) = 3; quota(4) = 1");
    }

    private static void events() {
        e.edge("11: a format is 'b', 's' or 'j'", "event('b', 0, 1) = 0; event('s', 0, 1) = 1; event('j', 0, 1) = 2");
        for (String format : "'a','c','r','t','i','k','B','S','J','-',0,65535,354".split(",")) {
            e.edge("11: there is no such format", "event('b', 0, 1) = 0",
                    "event(" + format + ", 0, 1) = throws IllegalArgumentException", "event('s', 0, 1) = 1");
        }
        e.edge("11: the edition, 0 to 7", """
                event('b', -1, 1) = throws IllegalArgumentException
                event('b', MIN, 1) = throws IllegalArgumentException
                event('b', 0, 1) = 0
                event('b', 8, 1) = throws IllegalArgumentException
                event('b', MAX, 1) = throws IllegalArgumentException
                event('b', 7, 1) = 1
                """);
        e.edge("11: 1 to 5 judges", """
                event('b', 0, 0) = throws IllegalArgumentException
                event('b', 0, -1) = throws IllegalArgumentException
                event('b', 0, MIN) = throws IllegalArgumentException
                event('b', 0, 1) = 0
                event('b', 0, 6) = throws IllegalArgumentException
                event('b', 0, MAX) = throws IllegalArgumentException
                event('b', 0, 5) = 1
                """);
    }

    private static void eventsFull() {
        e.edge("11: at most 6 events are numbered from 0", Probes.each(6, "event('b', #, 1) = #;"), """
                event('b', 0, 1) = throws IllegalStateException
                hold(5, false) = false; hold(6, false) = throws IndexOutOfBoundsException
                """);
        e.edge("11: a closed event keeps its number", Probes.each(6, "event('b', 0, 1);"), """
                close(0) = false; close(5) = false
                event('b', 0, 1) = throws IllegalStateException
                """);
        e.edge("11: of both exceptions the one for a wrong argument", Probes.each(6, "event('b', 0, 1);"), """
                event('x', 0, 1) = throws IllegalArgumentException
                event('b', 8, 1) = throws IllegalArgumentException
                event('b', 0, 6) = throws IllegalArgumentException
                event('b', 7, 5) = throws IllegalStateException
                """);
    }

    private static void entering() {
        for (String none : "2,-1,6,MAX,MIN".split(",")) {
            e.edge("12: there is no such event", PARK, "enter(" + none + ", 1) = throws IndexOutOfBoundsException");
        }
        for (String none : "6,-1,12,MAX,MIN".split(",")) {
            e.edge("12: there is no such athlete", PARK, "draw(0);",
                "enter(0, " + none + ") = throws IndexOutOfBoundsException");
        }
        e.edge("12: of both exceptions the one for an event or athlete", PARK, """
                close(0) = false
                enter(0, 6) = throws IndexOutOfBoundsException
                enter(2, 0) = throws IndexOutOfBoundsException
                enter(0, 0) = throws UnsupportedOperationException
                """);
        e.edge("12: the athlete is entered", PARK, "draw(0); enter(0, 0)" + REFUSED, "enter(0, 5)" + REFUSED,
                "enter(1, 0) = 1; enter(0, 1) = 3");
        e.edge("12: all twelve are entered", Probes.each(12, "athlete(0);"), "event('b', 0, 1); quota(4)",
                Probes.each(4, "enter(0, #);"), "enter(0, 4)" + REFUSED);
        e.edge("12: all twelve are entered, three of each nation",
                "athlete(0); athlete(1); athlete(2); athlete(3);".repeat(3), "event('b', 0, 1)",
                Probes.each(12, "enter(0, #);"), "enter(0, 11)" + REFUSED, "starter(0, 11) = 11",
                "starter(0, 12) = throws NoSuchElementException");
    }

    private static void quotaKept() {
        String nation = "athlete(1); athlete(1); athlete(1); athlete(1); athlete(1); athlete(0); event('b', 0, 1);";
        for (int quota = 1; quota <= 4; quota++) {
            e.edge("12: the nation has as many as the quota, " + quota, nation, "quota(" + quota + ")",
                    Probes.each(quota, "enter(0, #);"), "enter(0, " + quota + ")" + REFUSED, "enter(0, 4)" + REFUSED,
                    "enter(0, 5) = " + (quota + 1));
        }
        e.edge("12: the quota is 3 at first", nation, "enter(0, 4) = 1; enter(0, 3) = 2; enter(0, 2) = 3;",
                "enter(0, 1)" + REFUSED);
        e.edge("12: the quota is told anew, more", nation, "enter(0, 0); enter(0, 1); enter(0, 2);",
                "enter(0, 3)" + REFUSED, "quota(4) = 3; enter(0, 3) = 4;", "enter(0, 4)" + REFUSED);
        e.edge("12: the quota is told anew, less than there are", nation, "enter(0, 0); enter(0, 1); quota(1) = 3;",
                "enter(0, 2)" + REFUSED, "quota(2) = 1;", "enter(0, 2)" + REFUSED, "quota(3) = 2; enter(0, 2) = 3");
        e.edge("12: the quota is for each event", nation, "event('b', 0, 1); quota(1); enter(0, 0) = 1;",
                "enter(0, 1)" + REFUSED, "enter(1, 0) = 1;", "enter(1, 1)" + REFUSED);
    }

    private static void enteringLate() {
        e.edge("12: the event has a run, open, ended or struck out", PARK, "start(0, 0);", "enter(0, 1)" + REFUSED,
                "enter(1, 1) = 1; end();", "enter(0, 1)" + REFUSED, "strike(0) = 0;", "enter(0, 1)" + REFUSED);
        e.edge("12: the event has an ended run, and one of another event is open", PARK,
                "enter(1, 1); start(1, 1);", "enter(1, 2)" + REFUSED, "enter(0, 2) = 3; end();", "enter(1, 2)" + REFUSED);
        e.edge("12: the event is closed, void too", PARK, "close(0) = false;", "enter(0, 1)" + REFUSED,
                "close(1) = false;", "enter(1, 1)" + REFUSED);
        e.edge("12: a hold keeps nobody from it", PARK, "hold(0, true); enter(0, 1) = 3; hold(0, false) = true");
    }

    private static void drawing() {
        for (String none : "2,-1,6,MAX,MIN".split(",")) {
            e.edge("13: there is no such event", PARK, "draw(" + none + ") = throws IndexOutOfBoundsException");
        }
        e.edge("13: nobody is entered", PARK, "draw(1)" + REFUSED, "enter(1, 3); draw(1) = 3");
        e.edge("13: the event has a run, open, ended or struck out", PARK, "draw(0) = 0; start(0, 5);", "draw(0)" + REFUSED,
                "end();", "draw(0)" + REFUSED, "strike(0);", "draw(0)" + REFUSED, "seed(1) = 48271");
        e.edge("13: a run of another event is open", PARK, "enter(1, 1); enter(1, 2); start(0, 5); draw(1) = 1");
        e.edge("13: the event is closed, with athletes and without", PARK, "close(0);", "draw(0)" + REFUSED,
                "close(1);", "draw(1)" + REFUSED, "seed(1) = 1");
        e.edge("13: in a later round", PARK, "start(0, 0); end(); round(0, 1) = 2;", "draw(0)" + REFUSED);
        e.edge("13: of both exceptions the one for an event", PARK, "close(1);",
                "draw(2) = throws IndexOutOfBoundsException;", "draw(1)" + REFUSED);
    }

    private static void drawnOrders() {
        e.edge("13: one athlete is drawn without a step of z", PARK, "enter(1, 4); draw(1) = 4; seed(1) = 1");
        e.edge("13: two are drawn with one step", PARK,
                "draw(0) = 0; starter(0, 1) = 5; seed(2) = 48271; draw(0) = 5; starter(0, 1) = 0; seed(1) = 96542");
        // z: 48271, 182605794; modulo 3 and 2: 1, 0.
        e.edge("13: three are drawn with two steps", PARK, "enter(0, 1); draw(0) = 5;",
                "starter(0, 0) = 5; starter(0, 1) = 0; starter(0, 2) = 1; seed(1) = 182605794");
        // 2147483646 times 48271 is -48271 modulo 2147483647.
        e.edge("13: the greatest z times 48271 modulo 2147483647", PARK,
                "seed(2147483646); draw(0) = 5; starter(0, 1) = 0; seed(1) = 2147435376");
        // 44489 times 48271 is 2147528519, 44872 more than the modulus.
        e.edge("13: a z whose product is just above the modulus", PARK, "seed(44489); draw(0) = 5; seed(1) = 44872");
        // 44488 times 48271 is 2147480248, 3399 less than the modulus.
        e.edge("13: a z whose product is just below it", PARK, "seed(44488); draw(0) = 5; seed(1) = 2147480248");
        e.edge("13: from all athletes by numbers, whatever was drawn before", PARK,
                "seed(2); draw(0) = 5; seed(2); draw(0) = 5; starter(0, 1) = 0");
        e.edge("13: to enter one more makes the draw gone", PARK, "seed(2); draw(0) = 5; enter(0, 1) = 3;",
                "starter(0, 0) = 0; starter(0, 1) = 1; starter(0, 2) = 5");
        e.edge("13: to enter one more in another event, or to be refused, does not", PARK,
                "seed(2); draw(0) = 5; enter(1, 1) = 1;", "enter(0, 5)" + REFUSED, "starter(0, 0) = 5");
    }

    private static void starters() {
        for (String none : "2,-1,6,MAX,MIN".split(",")) {
            e.edge("14: there is no such event", PARK, "starter(" + none + ", 0) = throws IndexOutOfBoundsException",
                    "starter(" + none + ", 2) = throws IndexOutOfBoundsException");
        }
        for (String none : "2,-1,12,MAX,MIN".split(",")) {
            e.edge("14: there is no such place", PARK, "starter(0, " + none + ") = throws NoSuchElementException",
                    "starter(0, 0) = 0; starter(0, 1) = 5");
        }
        e.edge("14: nobody is entered", PARK, "starter(1, 0) = throws NoSuchElementException");
        e.edge("14: by numbers, as they start without a draw", PARK, "enter(0, 3); enter(0, 1);",
                "starter(0, 0) = 0; starter(0, 1) = 1; starter(0, 2) = 3; starter(0, 3) = 5",
                "starter(0, 4) = throws NoSuchElementException");
        e.edge("14: in a later round the first is the last one by places", PARK, """
                start(0, 5); does(0, 0, '-'); end(); start(0, 0); end()
                starter(0, 0) = 0; starter(0, 1) = 5
                round(0, 2) = 2; starter(0, 0) = 0; starter(0, 1) = 5
                starter(0, 2) = throws NoSuchElementException
                round(0, 1) = 3; starter(0, 0) = 5
                starter(0, 1) = throws NoSuchElementException
                """);
        e.edge("14: as places were when the round began", PARK, """
                start(0, 5); does(0, 0, '-'); end(); start(0, 0); end()
                round(0, 2) = 2
                start(0, 0); does(0, 0, '-'); end(); strike(0) = 0
                place(0, 0) = 1; place(0, 5) = throws NoSuchElementException
                starter(0, 0) = 0; starter(0, 1) = 5
                """);
        e.edge("14: who had the runs of a round stays in its order", PARK,
                "start(0, 0); end(); start(0, 0); end(); starter(0, 0) = 0; starter(0, 1) = 5");
        e.edge("14: the round that went on as the event was closed", PARK,
                "start(0, 5); end(); round(0, 1); close(0) = true; starter(0, 0) = 5",
                "starter(0, 1) = throws NoSuchElementException");
    }

    private static void seeds() {
        e.edge("39: z is 1 or more", PARK, """
                seed(7) = 1
                seed(0) = throws IllegalArgumentException
                seed(-1) = throws IllegalArgumentException
                seed(MIN) = throws IllegalArgumentException
                seed(1) = 7; seed(1) = 1
                """);
        e.edge("39: z is 2147483646 or less", PARK, """
                seed(2147483647) = throws IllegalArgumentException
                seed(MAX) = throws IllegalArgumentException
                seed(2147483646) = 1; seed(1) = 2147483646
                """);
        e.edge("39: the one before is the one that a draw left", PARK, "seed(1) = 1; draw(0); seed(5) = 48271; seed(1) = 5");
    }
}
