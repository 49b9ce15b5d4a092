/** The edges of promises 1 to 4: a new object, feature, line, build. */
public final class CourseEdgesTest {
    private static final Edges e = new Edges("CourseEdgesTest");

    /** A rail and a gap, lines both ways, a trick of base 10, and an athlete who is entered. */
    private static final String PARK = """
            feature('r', 10, 60, 2); feature('g', 25, 99, -10)
            line(0, 1, 3); line(1, 0, 7)
            trick('n', 'o', 'f', 'u', 2, 0, 0)
            athlete(0); event('b', 0, 1); enter(0, 0)
            """;

    public static void main(String[] args) {
        newObject();
        features();
        featuresFull();
        lines();
        linesTold();
        builders();
        buildersAndRuns();
        e.end();
    }

    private static void newObject() {
        e.edge("1: without features", """
                build(0, 0, 99, 0) = throws IndexOutOfBoundsException
                line(0, 1, 0) = throws IndexOutOfBoundsException
                feature('r', 0, 99, 0) = 0
                build(0, 0, 99, 0) = 0
                build(1, 0, 99, 0) = throws IndexOutOfBoundsException
                """);
        e.edge("1: without athletes", """
                list(0) = throws IndexOutOfBoundsException
                hurt(0) = throws IndexOutOfBoundsException
                listed(0) = throws NoSuchElementException
                athlete(0) = 0; list(0) = 0; hurt(0) = 0; listed(0) = 0
                list(1) = throws IndexOutOfBoundsException
                """);
        e.edge("1: without events", """
                starter(0, 0) = throws IndexOutOfBoundsException
                hold(0, true) = throws IndexOutOfBoundsException
                close(0) = throws IndexOutOfBoundsException
                event('b', 0, 1) = 0
                starter(0, 0) = throws NoSuchElementException
                hold(0, true) = false
                close(0) = false
                """);
        e.edge("1: without tricks and runs", """
                tricks() = 0
                base(0) = throws IndexOutOfBoundsException
                parts(0) = throws IndexOutOfBoundsException
                speed() = throws IllegalStateException
                end() = throws IllegalStateException
                fallShare() = throws ArithmeticException
                meanParts() = throws ArithmeticException
                checksum() = 7
                isTrue() = true
                """);
        e.edge("1: on the day 0", "day() = 1; day() = 2");
        e.edge("1: the quota is 3 and z is 1 at first", "quota(3) = 3; seed(1) = 1");
    }

    private static void features() {
        e.edge("2: a kind is 'r', 'g', 'l' or 'd'",
                "feature('r', 0, 99, 0) = 0; feature('g', 0, 99, 0) = 1;",
                "feature('l', 0, 99, 0) = 2; feature('d', 0, 99, 0) = 3");
        for (String kind : "'q','s','f','h','k','m','c','e','R','D','-',0,65535,370".split(",")) {
            e.edge("2: there is no such kind", "feature('r', 0, 99, 0) = 0",
                    "feature(" + kind + ", 0, 99, 0) = throws IllegalArgumentException", "feature('g', 0, 99, 0) = 1");
        }
        e.edge("2: the least speed is 0 or more", """
                feature('r', -1, 99, 0) = throws IllegalArgumentException
                feature('r', MIN, 99, 0) = throws IllegalArgumentException
                feature('r', 0, 99, 0) = 0
                build(0, 0, 99, 0) = 0
                """);
        e.edge("2: the least speed is 99 or less", """
                feature('r', 100, 100, 0) = throws IllegalArgumentException
                feature('r', 100, 99, 0) = throws IllegalArgumentException
                feature('r', MAX, MAX, 0) = throws IllegalArgumentException
                feature('r', 99, 99, 0) = 0
                build(0, 0, 99, 0) = 99
                """);
        e.edge("2: the greatest speed is 99 or less", """
                feature('r', 0, 100, 0) = throws IllegalArgumentException
                feature('r', 0, MAX, 0) = throws IllegalArgumentException
                feature('r', 0, 99, 0) = 0
                """);
        e.edge("2: the greatest speed is 0 or more", """
                feature('r', 0, -1, 0) = throws IllegalArgumentException
                feature('r', -1, -1, 0) = throws IllegalArgumentException
                feature('r', 0, MIN, 0) = throws IllegalArgumentException
                feature('r', 0, 0, 0) = 0
                """);
        e.edge("2: the greatest speed is not less than the least one", """
                feature('r', 50, 49, 0) = throws IllegalArgumentException
                feature('r', 99, 0, 0) = throws IllegalArgumentException
                feature('r', 50, 50, 0) = 0
                feature('r', 50, 51, 0) = 1
                """);
        e.edge("2: the gain is -20 or more", """
                feature('r', 0, 99, -21) = throws IllegalArgumentException
                feature('r', 0, 99, MIN) = throws IllegalArgumentException
                feature('r', 0, 99, -20) = 0
                """);
        e.edge("2: the gain is 20 or less", """
                feature('r', 0, 99, 21) = throws IllegalArgumentException
                feature('r', 0, 99, MAX) = throws IllegalArgumentException
                feature('r', 0, 99, 20) = 0
                """);
    }

    private static void featuresFull() {
        e.edge("2: at most 10 features are numbered from 0",
                Probes.each(10, "feature('r', 0, 99, 0) = #;"),
                "feature('r', 0, 99, 0) = throws IllegalStateException",
                "build(9, 0, 99, 0) = 0; build(10, 0, 99, 0) = throws IndexOutOfBoundsException");
        e.edge("2: of both exceptions the one for a wrong argument",
                Probes.each(10, "feature('d', 0, 99, 0);"),
                "feature('x', 0, 99, 0) = throws IllegalArgumentException",
                "feature('r', -1, 99, 0) = throws IllegalArgumentException",
                "feature('r', 0, 100, 0) = throws IllegalArgumentException",
                "feature('r', 0, 99, 21) = throws IllegalArgumentException",
                "feature('r', 0, 99, 20) = throws IllegalStateException");
        e.edge("2: a refused feature takes no number", """
                feature('x', 0, 99, 0) = throws IllegalArgumentException
                feature('r', 0, 99, 0) = 0
                feature('r', 2, 1, 0) = throws IllegalArgumentException
                feature('r', 0, 99, 0) = 1
                """);
    }

    private static void lines() {
        for (String none : "2,-1,10,MAX,MIN".split(",")) {
            e.edge("3: there is no such feature", PARK,
                    "line(" + none + ", 0, 0) = throws IndexOutOfBoundsException",
                    "line(0, " + none + ", 0) = throws IndexOutOfBoundsException",
                    "line(" + none + ", " + none + ", 0) = throws IndexOutOfBoundsException");
        }
        e.edge("3: the last feature has lines", Probes.each(10, "feature('r', 0, 99, 0);"), """
                line(9, 0, 20) = -1; line(0, 9, 20) = -1
                line(10, 0, 20) = throws IndexOutOfBoundsException
                line(0, 10, 20) = throws IndexOutOfBoundsException
                line(9, 0, 1) = 20; line(0, 9, 1) = 20
                """);
        e.edge("3: both are the same", PARK, """
                line(0, 0, 0) = throws IllegalArgumentException
                line(1, 1, 20) = throws IllegalArgumentException
                line(0, 1, 0) = 3
                """);
        e.edge("3: the loss is 0 or more", PARK, """
                line(0, 1, -1) = throws IllegalArgumentException
                line(0, 1, MIN) = throws IllegalArgumentException
                line(0, 1, 0) = 3
                """);
        e.edge("3: the loss is 20 or less", PARK, """
                line(0, 1, 21) = throws IllegalArgumentException
                line(0, 1, MAX) = throws IllegalArgumentException
                line(0, 1, 20) = 3
                """);
        e.edge("3: of both exceptions the one for a feature", PARK, """
                line(2, 2, 0) = throws IndexOutOfBoundsException
                line(2, 0, 21) = throws IndexOutOfBoundsException
                line(0, -1, -1) = throws IndexOutOfBoundsException
                line(1, 1, 21) = throws IllegalArgumentException
                """);
    }

    private static void linesTold() {
        e.edge("3: -1 without a line, and a loss of 0 is one", """
                feature('r', 0, 99, 0); feature('r', 0, 99, 0); feature('r', 0, 99, 0)
                line(0, 1, 0) = -1; line(0, 1, 5) = 0; line(0, 1, 20) = 5; line(0, 1, 0) = 20
                """);
        e.edge("3: there is at most one each way", """
                feature('r', 0, 99, 0); feature('r', 0, 99, 0); feature('r', 0, 99, 0)
                line(0, 1, 4) = -1; line(1, 0, 5) = -1; line(0, 2, 6) = -1; line(2, 1, 7) = -1
                line(0, 1, 0) = 4; line(1, 0, 0) = 5; line(0, 2, 0) = 6; line(2, 1, 0) = 7
                line(2, 0, 0) = -1; line(1, 2, 0) = -1
                """);
        e.edge("3: a line is told while a run is open, too", PARK, """
                feature('l', 0, 99, 0) = 2
                start(0, 0); does(0, 0, '-') = true
                does(0, 2, '-') = throws UnsupportedOperationException
                line(0, 2, 12) = -1
                does(0, 2, '-') = true; speed() = 20
                """);
    }

    private static void builders() {
        for (String none : "2,-1,10,MAX,MIN".split(",")) {
            e.edge("4: there is no such feature", PARK,
                    "build(" + none + ", 0, 99, 0) = throws IndexOutOfBoundsException");
        }
        e.edge("4: the least speed is 0 to 99", PARK, """
                build(0, -1, 99, 0) = throws IllegalArgumentException
                build(0, MIN, 99, 0) = throws IllegalArgumentException
                build(0, 0, 99, 0) = 10
                build(0, 100, 100, 0) = throws IllegalArgumentException
                build(0, 100, 99, 0) = throws IllegalArgumentException
                build(0, 99, 99, 0) = 0
                build(0, 0, 99, 0) = 99
                """);
        e.edge("4: the greatest speed is 0 to 99", PARK, """
                build(0, 0, 100, 0) = throws IllegalArgumentException
                build(0, 0, MAX, 0) = throws IllegalArgumentException
                build(0, 0, -1, 0) = throws IllegalArgumentException
                build(0, 0, 99, 0) = 10
                build(0, 0, 0, 0) = 0
                """);
        e.edge("4: the greatest speed is not less than the least one", PARK, """
                build(0, 50, 49, 0) = throws IllegalArgumentException
                build(0, 50, 50, 0) = 10
                build(0, 51, 52, 0) = 50
                """);
        e.edge("4: the gain is -20 to 20", PARK, """
                build(0, 0, 99, -21) = throws IllegalArgumentException
                build(0, 0, 99, MIN) = throws IllegalArgumentException
                build(0, 0, 99, 21) = throws IllegalArgumentException
                build(0, 0, 99, MAX) = throws IllegalArgumentException
                build(0, 1, 99, -20) = 10
                build(0, 2, 99, 20) = 1
                """);
        e.edge("4: of several exceptions the one listed first", PARK, """
                start(0, 0)
                build(2, 0, 100, 0) = throws IndexOutOfBoundsException
                build(2, 0, 99, 0) = throws IndexOutOfBoundsException
                build(0, 0, 100, 0) = throws IllegalArgumentException
                build(0, 0, 99, 21) = throws IllegalArgumentException
                build(0, 0, 99, 20) = throws IllegalStateException
                end()
                build(2, 0, 100, 0) = throws IndexOutOfBoundsException
                build(0, 0, 99, 20) = 10
                """);
    }

    private static void buildersAndRuns() {
        e.edge("4: between heats, when no run is open", PARK, """
                build(0, 30, 30, 5) = 10
                start(0, 0) = 0
                build(0, 0, 99, 0) = throws IllegalStateException
                does(0, 0, '-') = true; speed() = 35
                build(0, 0, 99, 0) = throws IllegalStateException
                build(1, 0, 99, 0) = throws IllegalStateException
                end() = 14
                build(0, 31, 31, 5) = 30
                start(0, 0) = 1; does(0, 0, '-') = false
                """);
        e.edge("4: the speeds and the gain are changed, the kind and the lines stay", PARK, """
                build(0, 30, 30, -20) = 10
                build(1, 3, 3, 20) = 25
                start(0, 0); does(0, 0, '-') = true; speed() = 10
                does(0, 1, '-') = false
                end() = 14
                build(1, 7, 7, 20) = 3
                start(0, 0); does(0, 0, '-') = true
                does(0, 1, '-') = true; speed() = 27
                worth(1, 0) = 14; worth(1, 1) = 0
                """);
        e.edge("4: what was cleared before stays so", PARK, """
                start(0, 0); does(0, 0, '-') = true; end() = 14
                build(0, 90, 99, 0) = 10
                parts(0) = 14; worth(0, 0) = 14; fallShare() = 0.0
                """);
    }
}
