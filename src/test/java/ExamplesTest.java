/** The examples that stand in the document under 'Terms', word for word. */
public final class ExamplesTest {
    public static void main(String[] args) {
        Edges e = new Edges("ExamplesTest");
        e.edge("the first example", """
                feature('r', 0, 99, 0) = 0; trick('n', 'o', 'f', 'u', 2, 0, 0) = 0; trick('s', 'p', 'b', 'u', 2, 0, 0) = 0
                athlete(0) = 0; event('b', 0, 1) = 0; enter(0, 0) = 1; start(0, 0) = 0
                does(1, 0, '-') = throws IndexOutOfBoundsException; end() = 0; score(0) = 0
                """);
        e.edge("the second example", "trick('s', 'o', 'f', 'c', 3, 1, 2) = 0; base(0) = 36; of(0, 's') = 's'; tricks() = 1");
        e.edge("the third example", """
                fallShare() = throws ArithmeticException; athlete(0) = 0; list(0) = 0
                choice(0, 5) = throws NoSuchElementException
                """);
        e.end();
    }
}
