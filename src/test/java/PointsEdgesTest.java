/** The edges of promises 32 to 34: points, list, listed. */
public final class PointsEdgesTest {
    private static final Edges e = new Edges("PointsEdgesTest");

    private static final String NONE = " = throws IndexOutOfBoundsException;";
    private static final String NO_PLACE = " = throws NoSuchElementException;";

    public static void main(String[] args) {
        asksOfNone();
        points();
        pointsOfTwelve();
        listsAged();
        listsCut();
        threeBest();
        listedOnes();
        e.end();
    }

    /** A gap, tricks of base 5 i, twelve athletes, so many events. */
    private static String park(int events) {
        return "feature('g', 0, 99, 0);" + Probes.each(13, "trick('n', 'o', 'f', 'u', #, 0, 0);")
                + "athlete(0); athlete(1); athlete(2); athlete(3);".repeat(3) + "event('b', 0, 1);".repeat(events);
    }

    /** All athletes take places in this order, and the event is closed. */
    private static String won(int event, int... byPlace) {
        StringBuilder told = new StringBuilder();
        for (int athlete : byPlace) {
            told.append("enter(").append(event).append(", ").append(athlete).append(");");
        }
        for (int place = 0; place < byPlace.length; place++) {
            told.append("start(").append(event).append(", ").append(byPlace[place]).append("); does(")
                    .append(12 - place).append(", 0, '-'); end();");
        }
        return told.append("close(").append(event).append(") = true;").toString();
    }

    private static void asksOfNone() {
        for (String none : "1,-1,6,MAX,MIN".split(",")) {
            e.edge("32: there is no such event", park(1), won(0, 0), "points(" + none + ", 0)" + NONE);
        }
        for (String none : "12,-1,60,MAX,MIN".split(",")) {
            e.edge("32, 33: there is no such athlete", park(1), won(0, 11), "points(0, " + none + ")" + NONE,
                "list(" + none + ")" + NONE,
                    "points(0, 11) = 100; list(11) = 100");
        }
        e.edge("33: no athletes", "list(0)" + NONE, "athlete(0); list(0) = 0; list(1)" + NONE);
    }

    private static void points() {
        e.edge("32: 0 as long as the event is not closed", park(1),
                "enter(0, 0); start(0, 0); end(); points(0, 0) = 0; list(0) = 0;",
                "close(0); points(0, 0) = 100; list(0) = 100");
        e.edge("32: 0 for who is not entered, has no run, or none that counts", park(1),
                "enter(0, 0); enter(0, 1); enter(0, 2);",
                "start(0, 0); end(); start(0, 2); does(12, 0, '-'); end(); strike(1); close(0) = true;",
                "points(0, 0) = 100; points(0, 1) = 0; points(0, 2) = 0; points(0, 3) = 0; list(2) = 0");
        e.edge("32: none by a void event", park(1), "enter(0, 0); close(0) = false; points(0, 0) = 0; list(0) = 0");
        e.edge("32: by each event", park(2), won(0, 3, 4), won(1, 4, 3),
                "points(0, 3) = 100; points(1, 3) = 80; points(0, 4) = 80; points(1, 4) = 100");
    }

    private static void pointsOfTwelve() {
        int[] due = {100, 80, 60, 50, 45, 40, 36, 32, 29, 26, 20, 20};
        StringBuilder asked = new StringBuilder();
        for (int place = 1; place <= 12; place++) {
            asked.append("place(0, ").append(12 - place).append(") = ").append(place).append("; points(0, ").append(12 - place)
                    .append(") = ").append(due[place - 1]).append(';');
        }
        e.edge("32: places bring 100 to 26 points, further ones 20", park(1), won(0, 11, 10, 9, 8, 7, 6, 5, 4, 3, 2, 1,
                0), asked.toString());
    }

    private static void listsAged() {
        e.edge("33: each halved for each two events that were closed since, void ones too", park(6), won(0, 0),
                "list(0) = 100; close(1) = false; list(0) = 100; close(2); list(0) = 50; close(3); list(0) = 50;",
                "close(4); list(0) = 25;",
                "close(5); list(0) = 25; points(0, 0) = 100");
        e.edge("33: since, not before", park(4), "close(0); close(1);", won(2, 0), "list(0) = 100; close(3); list(0) = 100");
        e.edge("33: in the order in which events were closed", park(3), won(2, 0),
                "close(0); list(0) = 100; close(1); list(0) = 50");
        e.edge("33: events that bring points age others as well", park(3), won(0, 0, 1), won(1, 0, 1), won(2, 1, 0),
                "list(0) = 230; list(1) = 220");
    }

    private static void listsCut() {
        e.edge("33: halved, cut", park(6), won(0, 0, 1, 2, 3, 4, 5, 6, 7, 8),
                "list(4) = 45; list(8) = 29; close(1); close(2);",
                "list(4) = 22; list(8) = 14; close(3); close(4); list(4) = 11; list(8) = 7");
        e.edge("33: each is cut by itself", park(5), won(0, 0, 1, 2, 3, 4), won(1, 0, 1, 2, 3, 4),
                "list(4) = 90; close(2); list(4) = 67;",
                "close(3); list(4) = 44; close(4); list(4) = 33");
    }

    private static void threeBest() {
        e.edge("33: none, one, two and three", park(3), "list(0) = 0;", won(0, 1, 0), "list(0) = 80;", won(1, 0),
                "list(0) = 180;",
                won(2, 0), "list(0) = 240");
        e.edge("33: the second and the third are less, each as it is aged", park(3), won(0, 0), won(1, 1, 2, 3, 4, 0),
                "list(0) = 145;", won(2, 1, 2, 3, 4, 5, 0), "list(0) = 135");
        e.edge("33: the fourth is the least and is left out", park(4), won(0, 1, 2, 0), won(1, 0), won(2, 0), won(3, 0),
                "list(0) = 250; points(0, 0) = 60");
        e.edge("33: the fourth is the last", park(4), won(0, 0), won(1, 0), won(2, 0), won(3, 1, 2, 3, 4, 5, 6, 7, 8, 9,
                0), "list(0) = 200");
        e.edge("33: the fourth is in the middle", park(4), won(0, 0), won(1, 1, 2, 3, 4, 5, 6, 7, 8, 9, 0), won(2, 0),
                won(3, 0), "list(0) = 250");
        e.edge("33: all six", park(6), won(0, 0), won(1, 0), won(2, 0), won(3, 0), won(4, 0), won(5, 0), "list(0) = 250");
    }

    private static void listedOnes() {
        for (String none : "12,-1,60,MAX,MIN".split(",")) {
            e.edge("34: there is none", park(1), won(0, 11), "listed(" + none + ")" + NO_PLACE,
                "listed(0) = 11; listed(1) = 0; listed(11) = 10");
        }
        e.edge("34: no athletes", "listed(0)" + NO_PLACE, "athlete(0); listed(0) = 0; listed(1)" + NO_PLACE,
                "athlete(0); listed(1) = 1");
        e.edge("34: higher sums first, then lower numbers", park(2), won(0, 5, 3, 7),
                "listed(0) = 5; listed(1) = 3; listed(2) = 7; listed(3) = 0;",
                won(1, 3, 5, 9), "listed(0) = 3; listed(1) = 5; listed(2) = 7; listed(3) = 9; listed(4) = 0;",
                "listed(5) = 1; listed(11) = 11");
        e.edge("34: sums as they are aged", park(3), won(0, 5), "close(1);", won(2, 7, 8, 4),
                "listed(0) = 7; listed(1) = 8; listed(2) = 4; listed(3) = 5");
    }
}
