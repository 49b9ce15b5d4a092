/** The edges of promises 5 to 8: trick, tricks, base, of. */
public final class TrickEdgesTest {
    private static final Edges e = new Edges("TrickEdgesTest");

    /** Told before: base 10, 43 and 20. */
    private static final String TOLD = """
            trick('n', 'o', 'f', 'u', 2, 0, 0) = 0
            trick('s', 'o', 'f', 'c', 4, 2, 3) = 1
            trick('n', 'o', 'b', 'i', 1, 1, 0) = 2
            athlete(0); risk(0, 0, 5)
            """;

    public static void main(String[] args) {
        letters();
        numbers();
        grabs();
        sharedTellings();
        sixty();
        bases();
        asked();
        e.end();
    }

    private static void letters() {
        wrongLetters("'m','o','r','t','p','N','S','-',0,65535,366,371", "trick(", ", 'o', 'f', 'u', 1, 0, 0)");
        wrongLetters("'n','q','s','f','O','P','-',0,65535,367,368", "trick('n', ", ", 'f', 'u', 1, 0, 0)");
        wrongLetters("'e','g','a','c','F','B','-','w',0,65535,358,354", "trick('n', 'o', ", ", 'u', 1, 0, 0)");
        wrongLetters("'t','v','b','e','h','j','U','C','D','I','-',0,65535,373", "trick('n', 'o', 'f', ", ", 1, 0, 0)");
        wrongLetters("'-',0", "trick('n', 'o', ", ", 'u', 0, 0, 0)");
        e.edge("5: all letters that there are", """
                trick('n', 'o', 'f', 'u', 1, 0, 0) = 0; trick('s', 'o', 'f', 'u', 1, 0, 0) = 1
                trick('n', 'o', 'b', 'u', 1, 0, 0) = 2; trick('s', 'o', 'b', 'u', 1, 0, 0) = 3
                trick('n', 'o', 'f', 'c', 1, 0, 0) = 4; trick('n', 'o', 'f', 'd', 1, 0, 0) = 5
                trick('n', 'o', 'f', 'i', 1, 0, 0) = 6; trick('n', 'p', 'f', 'i', 1, 0, 0) = 7
                """);
    }

    private static void wrongLetters(String letters, String before, String behind) {
        for (String letter : letters.split(",")) {
            e.edge("5: there is no such letter", TOLD,
                    before + letter + behind + " = throws IllegalArgumentException", "tricks() = 3");
        }
    }

    private static void numbers() {
        e.edge("5: half turns, 0 or more", TOLD, """
                trick('n', 'o', 'f', 'u', -1, 0, 0) = throws IllegalArgumentException
                trick('n', 'o', 'f', 'u', MIN, 0, 0) = throws IllegalArgumentException
                trick('n', 'o', 'f', 'u', 0, 0, 0) = 3; base(3) = 0
                """);
        e.edge("5: half turns, 12 or less", TOLD, """
                trick('n', 'o', 'f', 'u', 13, 0, 0) = throws IllegalArgumentException
                trick('n', 'o', 'f', 'u', MAX, 0, 0) = throws IllegalArgumentException
                trick('n', 'o', 'f', 'u', 12, 0, 0) = 3; base(3) = 60
                """);
        e.edge("5: a grab, 0 or more", TOLD, """
                trick('n', 'o', 'f', 'u', 1, -1, 0) = throws IllegalArgumentException
                trick('n', 'o', 'f', 'u', 1, -1, 1) = throws IllegalArgumentException
                trick('n', 'o', 'f', 'u', 1, MIN, 0) = throws IllegalArgumentException
                trick('n', 'o', 'f', 'u', 1, 0, 0) = 3
                """);
        e.edge("5: a grab, 5 or less", TOLD, """
                trick('n', 'o', 'f', 'u', 1, 6, 1) = throws IllegalArgumentException
                trick('n', 'o', 'f', 'u', 1, 6, 0) = throws IllegalArgumentException
                trick('n', 'o', 'f', 'u', 1, MAX, 0) = throws IllegalArgumentException
                trick('n', 'o', 'f', 'u', 1, 5, 1) = 3
                """);
        e.edge("5: held, 0 or more", TOLD, """
                trick('n', 'o', 'f', 'u', 1, 1, -1) = throws IllegalArgumentException
                trick('n', 'o', 'f', 'u', 1, 0, -1) = throws IllegalArgumentException
                trick('n', 'o', 'f', 'u', 1, 1, MIN) = throws IllegalArgumentException
                trick('n', 'o', 'f', 'u', 1, 1, 0) = 3
                """);
        e.edge("5: held, 3 or less", TOLD, """
                trick('n', 'o', 'f', 'u', 1, 1, 4) = throws IllegalArgumentException
                trick('n', 'o', 'f', 'u', 1, 5, MAX) = throws IllegalArgumentException
                trick('n', 'o', 'f', 'u', 1, 1, 3) = 3
                """);
        e.edge("5: held above 0 without a grab", TOLD, """
                trick('n', 'o', 'f', 'u', 1, 0, 1) = throws IllegalArgumentException
                trick('n', 'o', 'f', 'u', 1, 0, 3) = throws IllegalArgumentException
                trick('n', 'o', 'f', 'u', 1, 0, 4) = throws IllegalArgumentException
                trick('n', 'o', 'f', 'u', 1, 0, 0) = 3
                trick('n', 'o', 'f', 'u', 1, 1, 1) = 4
                """);
    }

    private static void grabs() {
        e.edge("5: a grab that is held 0 is none", """
                trick('n', 'o', 'f', 'u', 1, 1, 0) = 0; trick('n', 'o', 'f', 'u', 1, 0, 0) = 0
                trick('n', 'o', 'f', 'u', 1, 2, 0) = 0; trick('n', 'o', 'f', 'u', 1, 3, 0) = 0
                trick('n', 'o', 'f', 'u', 1, 4, 0) = 0; trick('n', 'o', 'f', 'u', 1, 5, 0) = 0
                base(0) = 5; tricks() = 1; isTrue() = true
                """);
        e.edge("5: grabs that are held are unlike, and so are their lengths", """
                trick('n', 'o', 'f', 'u', 1, 1, 1) = 0; trick('n', 'o', 'f', 'u', 1, 2, 1) = 1
                trick('n', 'o', 'f', 'u', 1, 3, 1) = 2; trick('n', 'o', 'f', 'u', 1, 4, 1) = 3
                trick('n', 'o', 'f', 'u', 1, 5, 1) = 4; trick('n', 'o', 'f', 'u', 1, 1, 2) = 5
                trick('n', 'o', 'f', 'u', 1, 1, 3) = 6; trick('n', 'o', 'f', 'u', 1, 1, 1) = 0
                """);
    }

    private static void sharedTellings() {
        e.edge("5: one from the nose is one from the tail in the other stance, the other way", """
                trick('n', 'o', 'f', 'u', 1, 0, 0) = 0; trick('s', 'p', 'b', 'u', 1, 0, 0) = 0
                trick('n', 'p', 'f', 'u', 1, 0, 0) = 1; trick('s', 'o', 'b', 'u', 1, 0, 0) = 1
                trick('s', 'o', 'f', 'u', 1, 0, 0) = 2; trick('n', 'p', 'b', 'u', 1, 0, 0) = 2
                trick('s', 'p', 'f', 'u', 1, 0, 0) = 3; trick('n', 'o', 'b', 'u', 1, 0, 0) = 3
                tricks() = 4; isTrue() = true
                """);
        e.edge("5: without half turns the way counts for nothing", """
                trick('n', 'o', 'f', 'u', 0, 0, 0) = 0; trick('n', 'o', 'b', 'u', 0, 0, 0) = 0
                trick('s', 'p', 'b', 'u', 0, 0, 0) = 0; trick('s', 'p', 'f', 'u', 0, 0, 0) = 0
                trick('n', 'p', 'f', 'u', 0, 0, 0) = 1; trick('n', 'p', 'b', 'u', 0, 0, 0) = 1
                trick('s', 'o', 'b', 'u', 0, 0, 0) = 1; trick('s', 'o', 'f', 'u', 0, 0, 0) = 1
                tricks() = 2; isTrue() = true
                """);
        e.edge("5: with one half turn the way counts", """
                trick('n', 'o', 'f', 'u', 1, 0, 0) = 0; trick('n', 'o', 'b', 'u', 1, 0, 0) = 1
                trick('n', 'o', 'f', 'u', 0, 0, 0) = 2; trick('n', 'o', 'b', 'u', 0, 0, 0) = 2
                """);
        e.edge("5: half turns and axes are unlike", """
                trick('n', 'o', 'f', 'u', 11, 0, 0) = 0; trick('n', 'o', 'f', 'u', 12, 0, 0) = 1
                trick('n', 'o', 'f', 'c', 12, 0, 0) = 2; trick('n', 'o', 'f', 'd', 12, 0, 0) = 3
                trick('n', 'o', 'f', 'i', 12, 0, 0) = 4; trick('s', 'p', 'b', 'd', 12, 5, 0) = 3
                """);
    }

    /** Tricks 0 to 59: 13 numbers of half turns for each of four axes, and 8 more with a grab. */
    private static String told(int many) {
        StringBuilder told = new StringBuilder();
        for (int i = 0; i < many; i++) {
            told.append("trick('n', 'o', 'f', '").append("ucdi".charAt(i / 13 % 4)).append("', ").append(i % 13)
                    .append(i < 52 ? ", 0, 0) = " : ", 5, 3) = ").append(i).append(';');
        }
        return told.toString();
    }

    private static void sixty() {
        e.edge("5: at most 60 unlike ones are told", told(60), """
                tricks() = 60
                trick('s', 'o', 'f', 'u', 0, 0, 0) = throws IllegalStateException
                trick('n', 'o', 'f', 'u', 12, 5, 3) = throws IllegalStateException
                tricks() = 60
                base(59) = 44; base(60) = throws IndexOutOfBoundsException
                """);
        e.edge("5: the sixtieth is told", told(59), """
                tricks() = 59; base(59) = throws IndexOutOfBoundsException
                trick('s', 'o', 'b', 'd', 12, 5, 3) = 59; base(59) = 91
                trick('s', 'o', 'b', 'd', 12, 4, 3) = throws IllegalStateException
                """);
        e.edge("5: one that was told is so still, however it is told, if 60 were told", told(60), """
                trick('n', 'o', 'f', 'u', 0, 0, 0) = 0; trick('s', 'p', 'f', 'u', 0, 4, 0) = 0
                trick('s', 'p', 'b', 'i', 12, 2, 0) = 51; trick('s', 'p', 'b', 'u', 7, 5, 3) = 59
                """);
        e.edge("5: of both exceptions the one for a wrong argument", told(60), """
                trick('x', 'o', 'f', 'u', 0, 0, 0) = throws IllegalArgumentException
                trick('s', 'o', 'f', 'u', 13, 0, 0) = throws IllegalArgumentException
                trick('s', 'o', 'f', 'u', 0, 0, 1) = throws IllegalArgumentException
                trick('s', 'o', 'f', 'u', 0, 1, 1) = throws IllegalStateException
                """);
        e.edge("6: unlike tricks alone are counted, refused ones are not", TOLD, """
                tricks() = 3
                trick('s', 'p', 'b', 'u', 2, 0, 0) = 0; tricks() = 3
                trick('s', 'p', 'b', 'u', 13, 0, 0) = throws IllegalArgumentException
                tricks() = 3
                trick('s', 'p', 'f', 'u', 2, 0, 0) = 3; tricks() = 4
                """);
    }

    private static void bases() {
        e.edge("7: 5 for each half turn", "trick('n', 'o', 'f', 'u', 0, 0, 0); trick('n', 'o', 'f', 'u', 1, 0, 0);",
                "trick('n', 'o', 'f', 'u', 12, 0, 0); base(0) = 0; base(1) = 5; base(2) = 60");
        e.edge("7: 8 more for 'c', 16 for 'd', 12 for 'i'", """
                trick('n', 'o', 'f', 'c', 0, 0, 0); trick('n', 'o', 'f', 'd', 0, 0, 0)
                trick('n', 'o', 'f', 'i', 0, 0, 0); base(0) = 8; base(1) = 16; base(2) = 12
                """);
        e.edge("7: 6 more if its stance, told from the tail, is switch", """
                trick('s', 'o', 'f', 'u', 0, 0, 0); trick('n', 'o', 'f', 'u', 0, 0, 0)
                trick('n', 'p', 'f', 'u', 1, 0, 0); trick('s', 'p', 'f', 'u', 1, 0, 0)
                base(0) = 6; base(1) = 0; base(2) = 11; base(3) = 5
                """);
        e.edge("7: 2 times how long a grab is held, and 3 for a grab, if any", """
                trick('n', 'o', 'f', 'u', 0, 1, 0); trick('n', 'o', 'f', 'u', 0, 1, 1)
                trick('n', 'o', 'f', 'u', 0, 5, 2); trick('n', 'o', 'f', 'u', 0, 5, 3)
                base(0) = 0; base(1) = 5; base(2) = 7; base(3) = 9
                """);
        e.edge("7: the greatest base", "trick('n', 'p', 'b', 'd', 12, 5, 3) = 0; base(0) = 91");
        for (String none : "3,-1,60,MAX,MIN".split(",")) {
            e.edge("7: there is no such trick", TOLD, "base(" + none + ") = throws IndexOutOfBoundsException",
                    "base(2) = 17; base(0) = 10");
        }
    }

    private static void asked() {
        e.edge("8: 's' its stance, 'w' its way, 'a' its axis, as told from the tail", """
                trick('n', 'p', 'b', 'i', 1, 0, 0)
                of(0, 's') = 's'; of(0, 'w') = 'f'; of(0, 'a') = 'i'
                trick('s', 'p', 'f', 'u', 1, 0, 0)
                of(1, 's') = 'n'; of(1, 'w') = 'b'; of(1, 'a') = 'u'
                """);
        e.edge("8: the way is '-' without half turns", """
                trick('n', 'o', 'f', 'c', 0, 0, 0); of(0, 'w') = '-'; of(0, 'a') = 'c'
                trick('n', 'p', 'b', 'd', 0, 0, 0); of(1, 'w') = '-'; of(1, 'a') = 'd'; of(1, 's') = 's'
                trick('n', 'o', 'b', 'd', 1, 0, 0); of(2, 'w') = 'b'
                """);
        for (String none : "3,-1,60,MAX,MIN".split(",")) {
            e.edge("8: there is no such trick", TOLD, "of(" + none + ", 's') = throws IndexOutOfBoundsException",
                    "of(2, 's') = 'n'");
        }
        for (String letter : "'r','t','v','x','b','S','W','A','-','h',0,65535,371".split(",")) {
            e.edge("8: there is no such letter", TOLD, "of(0, " + letter + ") = throws IllegalArgumentException");
        }
        e.edge("8: of both exceptions the one for a trick", TOLD, """
                of(3, 'x') = throws IndexOutOfBoundsException
                of(-1, '-') = throws IndexOutOfBoundsException
                """);
    }
}
