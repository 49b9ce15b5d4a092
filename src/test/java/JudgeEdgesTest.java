/** The edges of promises 21 to 25: mark, control, score, strike, protest. */
public final class JudgeEdgesTest {
    private static final Edges e = new Edges("JudgeEdgesTest");

    private static final String REFUSED = " = throws UnsupportedOperationException;";

    /** A rail and a gap, bases 10, 15 and 20, two athletes. */
    private static final String PARK = """
            feature('r', 0, 99, 0); feature('g', 0, 99, 0); line(0, 1, 0); line(1, 0, 0)
            trick('n', 'o', 'f', 'u', 2, 0, 0); trick('n', 'o', 'f', 'u', 3, 0, 0); trick('n', 'o', 'f', 'u', 4, 0, 0)
            athlete(0); athlete(1)
            """;

    /** An event by sight with three judges, and one by parts with one; the run 0 is ended, of the first one. */
    private static final String JUDGED = PARK + """
            event('b', 1, 3); event('b', 0, 1); enter(0, 0); enter(0, 1); enter(1, 0)
            start(0, 0); does(0, 0, '-'); end(); mark(0, 0, 50) = 1
            """;

    public static void main(String[] args) {
        marksOfNone();
        marks();
        marksLate();
        controls();
        slips();
        scores();
        sights();
        sightsBySlips();
        strikes();
        strikesCounted();
        protestsOfNone();
        protests();
        protestsLate();
        e.end();
    }

    private static void marksOfNone() {
        for (String none : "1,-1,60,MAX,MIN".split(",")) {
            e.edge("21: there is no such run", JUDGED, "mark(" + none + ", 0, 50) = throws IndexOutOfBoundsException");
        }
        for (String none : "3,-1,5,MAX,MIN".split(",")) {
            e.edge("21: there is no such judge", JUDGED, "mark(0, " + none + ", 50) = throws IndexOutOfBoundsException",
                    "mark(0, 2, 50) = 2");
        }
        e.edge("21: the judges of the run's own event", JUDGED,
                "start(1, 0); end(); mark(1, 1, 50) = throws IndexOutOfBoundsException; mark(1, 0, 50) = 1");
        e.edge("21: five judges", PARK, "event('b', 1, 5); enter(0, 0); start(0, 0); end();",
                "mark(0, 4, 50) = 1; mark(0, 5, 50) = throws IndexOutOfBoundsException");
        e.edge("21: of several exceptions the one listed first", JUDGED, """
                mark(0, 3, 101) = throws IndexOutOfBoundsException
                mark(1, 0, -1) = throws IndexOutOfBoundsException
                start(0, 1)
                mark(1, 3, 50) = throws IndexOutOfBoundsException
                mark(1, 0, 101) = throws IllegalArgumentException
                mark(1, 0, 100) = throws UnsupportedOperationException
                end(); strike(0); strike(1); close(0)
                mark(1, 0, 101) = throws IllegalArgumentException
                mark(1, 3, 50) = throws IndexOutOfBoundsException
                mark(1, 0, 100) = throws UnsupportedOperationException
                """);
    }

    private static void marks() {
        e.edge("21: 0 or more", JUDGED, """
                mark(0, 0, -1) = throws IllegalArgumentException
                mark(0, 1, MIN) = throws IllegalArgumentException
                mark(0, 0, 0) = 1; mark(0, 1, 0) = 2; mark(0, 2, 0) = 3; score(0) = 0
                """);
        e.edge("21: 100 or less", JUDGED, """
                mark(0, 0, 101) = throws IllegalArgumentException
                mark(0, 1, MAX) = throws IllegalArgumentException
                mark(0, 0, 100) = 1; mark(0, 1, 100) = 2; mark(0, 2, 100) = 3; score(0) = 10000
                """);
        e.edge("21: a later mark is in place of the one before", JUDGED, """
                mark(0, 0, 0) = 1; mark(0, 0, 100) = 1; mark(0, 2, 1) = 2; mark(0, 2, 2) = 2
                mark(0, 1, 30) = 3; score(0) = 4400; mark(0, 0, 0) = 3; score(0) = 1066
                """);
    }

    private static void marksLate() {
        e.edge("21: the run is open", JUDGED, "start(0, 1);", "mark(1, 0, 50)" + REFUSED,
                "mark(0, 1, 50) = 2; end(); mark(1, 0, 50) = 1");
        e.edge("21: the event is closed", JUDGED, "mark(0, 1, 50); mark(0, 2, 50); close(0) = true;",
                "mark(0, 0, 50)" + REFUSED, "score(0) = 5000");
        e.edge("21: the event is closed and void", JUDGED, "strike(0); close(0) = false;", "mark(0, 1, 50)" + REFUSED);
        e.edge("21: another event is closed, or a run of it is open", JUDGED,
                "close(1) = false; mark(0, 1, 50) = 2; start(0, 1); mark(0, 2, 50) = 3");
        e.edge("21: a run that was struck out is marked still", JUDGED, "strike(0); mark(0, 1, 50) = 2");
    }

    private static void controls() {
        for (String none : "2,-1,6,MAX,MIN".split(",")) {
            e.edge("22: there is no such event", JUDGED, "control(" + none + ", 0, 5) = throws IndexOutOfBoundsException");
        }
        for (String none : "3,-1,5,MAX,MIN".split(",")) {
            e.edge("22: there is no such judge", JUDGED, "control(0, " + none + ", 5) = throws IndexOutOfBoundsException",
                    "control(0, 2, 5) = 5; control(1, 0, 4) = 4; control(1, 1, 5) = throws IndexOutOfBoundsException");
        }
        e.edge("22: -50 or more", JUDGED, """
                control(0, 0, -51) = throws IllegalArgumentException
                control(0, 0, MIN) = throws IllegalArgumentException
                control(0, 0, -50) = -50
                """);
        e.edge("22: 50 or less", JUDGED, """
                control(0, 0, 51) = throws IllegalArgumentException
                control(0, 0, MAX) = throws IllegalArgumentException
                control(0, 0, 50) = 50
                """);
        e.edge("22: the event is closed", JUDGED, "strike(0); close(0);", "control(0, 0, 5)" + REFUSED,
                "control(1, 0, 5) = 5");
        e.edge("22: a run is open, or the event is held", JUDGED, "start(0, 1); hold(0, true); control(0, 0, 5) = 5");
        e.edge("22: of several exceptions the one listed first", JUDGED, """
                strike(0); close(0)
                control(2, 0, 51) = throws IndexOutOfBoundsException
                control(0, 3, 51) = throws IndexOutOfBoundsException
                control(0, 3, 5) = throws IndexOutOfBoundsException
                control(0, 0, 51) = throws IllegalArgumentException
                control(0, 0, 50) = throws UnsupportedOperationException
                """);
    }

    private static void slips() {
        e.edge("22: the mean is cut toward 0 from above", JUDGED, "control(0, 0, 1) = 1; control(0, 0, 0) = 0;",
                "control(0, 0, 1) = 0; control(0, 0, 2) = 1; control(0, 0, 5) = 1; control(0, 0, 3) = 2");
        e.edge("22: the mean is cut toward 0 from below", JUDGED, "control(0, 0, -1) = -1; control(0, 0, 0) = 0;",
                "control(0, 0, -1) = 0; control(0, 0, -2) = -1; control(0, 0, -5) = -1; control(0, 0, -3) = -2");
        e.edge("22: the mean of what was told, not of what was cut", JUDGED,
                "control(0, 0, 3) = 3; control(0, 0, 4) = 3; control(0, 0, 4) = 3; control(0, 0, 5) = 4");
        e.edge("22: told for the judge in the event", JUDGED,
                "control(0, 0, 50) = 50; control(0, 1, -50) = -50; control(1, 0, 7) = 7; control(0, 2, 0) = 0;",
                "control(0, 0, 0) = 25");
    }

    private static void scores() {
        for (String none : "1,-1,60,MAX,MIN".split(",")) {
            e.edge("23: there is no such run", JUDGED, "score(" + none + ") = throws IndexOutOfBoundsException");
        }
        e.edge("23: the run is open, by parts and by sight", JUDGED, "start(1, 0); does(0, 0, '-');", "score(1)" + REFUSED,
                "end(); score(1) = 1400; start(0, 1);", "score(2)" + REFUSED, "end();", "score(2)" + REFUSED);
        e.edge("23: not marked by all judges", JUDGED, "score(0)" + REFUSED, "mark(0, 2, 50) = 2;", "score(0)" + REFUSED,
                "mark(0, 1, 50) = 3; score(0) = 5000");
        e.edge("23: one judge has marked for all, but once alone", JUDGED, "mark(0, 0, 1); mark(0, 0, 2);",
                "score(0)" + REFUSED);
        e.edge("23: by parts no marks are needed, and they count for nothing", JUDGED,
                "start(1, 0); does(1, 1, '-'); end(); score(1) = 1500; mark(1, 0, 1) = 1; score(1) = 1500");
        e.edge("23: an empty run", JUDGED, "start(1, 0); end(); score(1) = 0");
        e.edge("23: a run that was struck out has its score", JUDGED,
                "mark(0, 1, 50); mark(0, 2, 50); strike(0); score(0) = 5000");
        e.edge("23: by sight parts count for nothing", PARK, "event('b', 1, 1); enter(0, 0); start(0, 0); does(2, 0, '-');",
                "end() = 24; mark(0, 0, 3); score(0) = 300");
    }

    /** An event by sight with a judge for each mark, and a run of the athlete 0 that they have marked. */
    private static String marked(int... marks) {
        StringBuilder told = new StringBuilder("event('b', 1, " + marks.length + "); enter(0, 0); start(0, 0); end();");
        for (int judge = 0; judge < marks.length; judge++) {
            told.append("mark(0, ").append(judge).append(", ").append(marks[judge]).append(");");
        }
        return told.toString();
    }

    private static void sights() {
        e.edge("23: one judge", PARK, marked(33), "score(0) = 3300");
        e.edge("23: two judges", PARK, marked(33, 34), "score(0) = 3350");
        e.edge("23: three judges, none left out, cut", PARK, marked(100, 0, 1), "score(0) = 3366");
        e.edge("23: three judges, not cut", PARK, marked(100, 0, 2), "score(0) = 3400");
        e.edge("23: four judges, without the least and the greatest", PARK, marked(100, 31, 0, 40), "score(0) = 3550");
        e.edge("23: four judges, two of them the least", PARK, marked(10, 10, 90, 80), "score(0) = 4500");
        e.edge("23: four judges, two of them the greatest", PARK, marked(90, 90, 10, 20), "score(0) = 5500");
        e.edge("23: five judges, cut", PARK, marked(0, 100, 33, 34, 33), "score(0) = 3333");
        e.edge("23: five judges alike", PARK, marked(7, 7, 7, 7, 7), "score(0) = 700");
        e.edge("23: the least and the greatest stand first and last", PARK, marked(1, 50, 60, 70, 99), "score(0) = 6000");
        e.edge("23: the greatest and the least stand first and last", PARK, marked(99, 50, 60, 70, 1), "score(0) = 6000");
    }

    private static void sightsBySlips() {
        e.edge("23: marks less slips, told behind the mark too", PARK, marked(50), "control(0, 0, 7); score(0) = 4300;",
                "control(0, 0, -8); score(0) = 5000; control(0, 0, -5) = -2; score(0) = 5200");
        e.edge("23: the least and the greatest of the differences", PARK, marked(50, 60, 70, 80),
                "control(0, 3, 50) = 50; score(0) = 5500; control(0, 0, -50) = -50; score(0) = 6500");
        e.edge("23: differences below 0 and above 100", PARK, marked(0), "control(0, 0, 50); score(0) = -5000");
        e.edge("23: differences above 100", PARK, marked(100), "control(0, 0, -50); score(0) = 15000");
        e.edge("23: below 0 it is cut, too", PARK, marked(0, 0, 0), "control(0, 1, 1) = 1; score(0) = -33");
        e.edge("23: all differences below 0", PARK, marked(1, 2, 3, 4), "control(0, 0, 50); control(0, 1, 50);",
                "control(0, 2, 50); control(0, 3, 50); score(0) = -4750");
    }

    private static void strikes() {
        for (String none : "1,-1,60,MAX,MIN".split(",")) {
            e.edge("24: there is no such run", JUDGED, "strike(" + none + ") = throws IndexOutOfBoundsException");
        }
        e.edge("24: the run is open", JUDGED, "start(0, 1);", "strike(1)" + REFUSED, "end(); strike(1) = 0");
        e.edge("24: the run was struck out", JUDGED, "strike(0) = 0;", "strike(0)" + REFUSED);
        e.edge("24: the event is closed", JUDGED, "mark(0, 1, 50); mark(0, 2, 50); close(0);", "strike(0)" + REFUSED);
        e.edge("24: the event is closed and void, or another one", JUDGED,
                "close(1); strike(0) = 0; close(0);", "strike(0)" + REFUSED);
        e.edge("24: of both exceptions the one for a run", JUDGED, "strike(0); close(0);",
                "strike(1) = throws IndexOutOfBoundsException;", "strike(0)" + REFUSED);
    }

    private static void strikesCounted() {
        e.edge("24: how many runs of the athlete in the event are left", PARK,
                "event('b', 0, 1); event('b', 0, 1); enter(0, 0); enter(0, 1); enter(1, 0);",
                "start(0, 0); end(); start(0, 1); end(); start(1, 0); end(); start(0, 0); end();",
                "round(0, 1); start(0, 0); end(); strike(3) = 2; strike(0) = 1; strike(4) = 0; strike(1) = 0;",
                "strike(2) = 0");
        e.edge("24: a run without a score is left, too", JUDGED, "start(0, 0); end(); strike(0) = 1; strike(1) = 0");
        e.edge("24: one that is open is left, too", JUDGED, "start(0, 0); strike(0) = 1");
        e.edge("24: a run that was struck out does not count", JUDGED, "mark(0, 1, 50); mark(0, 2, 50); sum(0, 0) = 5000;",
                "strike(0) = 0; sum(0, 0) = throws NoSuchElementException; parts(0) = 14; worth(0, 0) = 14;",
                "meanParts() = 14.0");
    }

    private static final String RIDDEN = PARK + """
            event('b', 2, 1); event('b', 0, 1); enter(0, 0); enter(0, 1)
            start(0, 0); does(0, 0, '-'); does(0, 1, 'h'); end() = 18
            """;

    private static void protestsOfNone() {
        for (String none : "1,-1,60,MAX,MIN".split(",")) {
            e.edge("25: there is no such run", RIDDEN, "protest(" + none + ", 0, 1) = throws IndexOutOfBoundsException");
        }
        for (String none : "3,-1,60,MAX,MIN".split(",")) {
            e.edge("25: there is no such trick", RIDDEN, "protest(0, 0, " + none + ") = throws IndexOutOfBoundsException",
                    "protest(0, 0, 2) = 31");
        }
        for (String none : "2,-1,10,MAX,MIN".split(",")) {
            e.edge("25: the run has no such place", RIDDEN, "protest(0, " + none + ", 1) = throws NoSuchElementException",
                    "protest(0, 1, 1) = 25");
        }
        e.edge("25: an empty run has no place", RIDDEN, "start(0, 1); end();",
                "protest(1, 0, 1) = throws NoSuchElementException");
        e.edge("25: a full run has the place 9", RIDDEN, "start(0, 1);", "does(0, 0, '-'); does(0, 1, '-');".repeat(5),
                "end() = 67; protest(1, 9, 1) = 77; protest(1, 10, 1) = throws NoSuchElementException");
    }

    private static void protests() {
        e.edge("25: the same feature and the same fault", RIDDEN,
                "protest(0, 1, 2) = 28; worth(0, 1) = 14; worth(0, 0) = 14");
        e.edge("25: a repeat is none any more", RIDDEN, "worth(0, 1) = 4; protest(0, 0, 1) = 26; worth(0, 1) = 7;",
                "parts(0) = 26");
        e.edge("25: a trick becomes a repeat", RIDDEN, "protest(0, 0, 1) = 26; protest(0, 1, 1) = 24; worth(0, 1) = 5");
        e.edge("25: the trick that it was", RIDDEN, "protest(0, 0, 0) = 18; checksum() = 208637; protest(0, 0, 1) = 26;",
                "checksum() = 208668");
        e.edge("25: a fall stays one", RIDDEN, "start(0, 0); does(0, 0, 'f'); end(); protest(1, 0, 2) = 0; hurt(0) = 0;",
                "fallShare() = 0.33333334; isTrue() = true");
        e.edge("25: score, sum and means are those of the trick", RIDDEN,
                "protest(0, 0, 2) = 31; score(0) = 3100; sum(0, 0) = 3100; meanParts() = 31.0; isTrue() = true");
        e.edge("25: a run that was struck out", RIDDEN, "strike(0); protest(0, 0, 2) = 31");
    }

    private static void protestsLate() {
        e.edge("25: the run is open", RIDDEN, "start(0, 1); does(0, 0, '-');", "protest(1, 0, 1)" + REFUSED,
                "protest(0, 0, 1) = 26; end(); protest(1, 0, 1) = 19");
        e.edge("25: the event is closed", RIDDEN, "close(0) = true;", "protest(0, 0, 1)" + REFUSED, "points(0, 0) = 100");
        e.edge("25: another event is closed, or this one is held", RIDDEN, "close(1); hold(0, true); protest(0, 0, 1) = 26");
        e.edge("25: of several exceptions the one listed first", RIDDEN, """
                start(0, 1)
                protest(2, 0, 3) = throws IndexOutOfBoundsException
                protest(1, 0, 3) = throws IndexOutOfBoundsException
                protest(2, 0, 1) = throws IndexOutOfBoundsException
                protest(1, 0, 1) = throws NoSuchElementException
                end(); close(0)
                protest(0, 2, 3) = throws IndexOutOfBoundsException
                protest(0, 2, 1) = throws NoSuchElementException
                protest(0, 1, 1) = throws UnsupportedOperationException
                """);
    }
}
