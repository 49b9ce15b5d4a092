import java.io.IOException;
import java.lang.reflect.Constructor;
import java.lang.reflect.Method;
import java.lang.reflect.Modifier;
import java.nio.file.Files;
import java.nio.file.Path;
import java.util.ArrayList;
import java.util.List;
import java.util.Map;
import java.util.TreeMap;
import java.util.regex.Matcher;
import java.util.regex.Pattern;

/** The face: every signature of 'The public face', and nothing beside it. */
public final class FaceTest {
    private static final Checks c = new Checks("FaceTest");
    private static final Pattern METHOD = Pattern.compile("^public (\\w+) (\\w+)\\((.*)\\)");

    /** The lines of the document's face, without the signs behind them. */
    private static final String FACE = """
            public final class KickflipPark
            public KickflipPark()
            public int feature(char kind, int least, int greatest, int gain) throws IllegalArgumentException, IllegalStateException
            public int line(int from, int to, int loss) throws IndexOutOfBoundsException, IllegalArgumentException
            public int build(int feature, int least, int greatest, int gain) throws IndexOutOfBoundsException, IllegalArgumentException, IllegalStateException
            public int trick(char stance, char takeOff, char way, char axis, int halves, int grab, int held) throws IllegalArgumentException, IllegalStateException
            public int tricks()
            public int base(int trick) throws IndexOutOfBoundsException
            public char of(int trick, char what) throws IndexOutOfBoundsException, IllegalArgumentException
            public int athlete(int nation) throws IllegalArgumentException, IllegalStateException
            public int quota(int quota) throws IllegalArgumentException
            public int event(char format, int edition, int judges) throws IllegalArgumentException, IllegalStateException
            public int enter(int event, int athlete) throws IndexOutOfBoundsException, UnsupportedOperationException
            public int draw(int event) throws IndexOutOfBoundsException, UnsupportedOperationException
            public int starter(int event, int place) throws IndexOutOfBoundsException, NoSuchElementException
            public int start(int event, int athlete) throws IndexOutOfBoundsException, UnsupportedOperationException, IllegalStateException
            public boolean does(int trick, int feature, char fault) throws IndexOutOfBoundsException, IllegalArgumentException, IllegalStateException, UnsupportedOperationException
            public int speed() throws IllegalStateException
            public int end() throws IllegalStateException
            public int worth(int run, int place) throws IndexOutOfBoundsException, NoSuchElementException
            public int parts(int run) throws IndexOutOfBoundsException
            public int mark(int run, int judge, int mark) throws IndexOutOfBoundsException, IllegalArgumentException, UnsupportedOperationException
            public int control(int event, int judge, int above) throws IndexOutOfBoundsException, IllegalArgumentException, UnsupportedOperationException
            public int score(int run) throws IndexOutOfBoundsException, UnsupportedOperationException
            public int strike(int run) throws IndexOutOfBoundsException, UnsupportedOperationException
            public int protest(int run, int place, int trick) throws IndexOutOfBoundsException, NoSuchElementException, UnsupportedOperationException
            public int sum(int event, int athlete) throws IndexOutOfBoundsException, NoSuchElementException, UnsupportedOperationException
            public int place(int event, int athlete) throws IndexOutOfBoundsException, NoSuchElementException, UnsupportedOperationException
            public int heat(int event, int athlete, int other) throws IndexOutOfBoundsException, IllegalArgumentException, NoSuchElementException, UnsupportedOperationException
            public boolean hold(int event, boolean is) throws IndexOutOfBoundsException, UnsupportedOperationException
            public int round(int event, int many) throws IndexOutOfBoundsException, IllegalArgumentException, UnsupportedOperationException
            public boolean close(int event) throws IndexOutOfBoundsException, UnsupportedOperationException
            public int points(int event, int athlete) throws IndexOutOfBoundsException
            public int list(int athlete) throws IndexOutOfBoundsException
            public int listed(int place) throws NoSuchElementException
            public int hurt(int athlete) throws IndexOutOfBoundsException
            public int day()
            public int risk(int athlete, int trick, int risk) throws IndexOutOfBoundsException, IllegalArgumentException
            public long choice(int athlete, int need) throws IndexOutOfBoundsException, IllegalArgumentException, NoSuchElementException
            public int seed(int z) throws IllegalArgumentException
            public float fallShare() throws ArithmeticException
            public double meanParts() throws ArithmeticException
            public long checksum()
            public boolean isTrue()
            """;

    public static void main(String[] args) throws IOException {
        wordForWord();
        Map<String, String> due = new TreeMap<>();
        for (String line : FACE.strip().split("\n")) {
            Matcher method = METHOD.matcher(line);
            if (method.find()) {
                String types = method.group(3).replaceAll(" \\w+(?=,|$)", "").replace(" ", "");
                due.put(method.group(2) + "(" + types + ")", method.group(1));
            }
        }
        c.due("how many promised methods", due.size(), 42);
        for (Method method : KickflipPark.class.getDeclaredMethods()) {
            StringBuilder told = new StringBuilder(method.getName()).append('(');
            for (Class<?> type : method.getParameterTypes()) {
                told.append(told.charAt(told.length() - 1) == '(' ? "" : ",").append(type.getName());
            }
            told.append(')');
            if (Modifier.isPrivate(method.getModifiers())) {
                for (String face : due.keySet()) {
                    c.due("a private " + told, face.startsWith(method.getName() + "("), false);
                }
            } else {
                c.due("the type of " + told, method.getReturnType().getName(), due.get(told.toString()));
                c.due(told + " is public alone", Modifier.toString(method.getModifiers()), "public");
            }
        }
        long open = java.util.Arrays.stream(KickflipPark.class.getDeclaredMethods())
                .filter(m -> Modifier.isPublic(m.getModifiers())).count();
        c.due("how many public methods", open, 42);
        c.due("the class", Modifier.toString(KickflipPark.class.getModifiers()), "public final");
        Constructor<?>[] constructors = KickflipPark.class.getDeclaredConstructors();
        c.due("constructors", constructors.length, 1);
        c.due("the constructor", constructors[0].toString(), "public KickflipPark()");
        c.due("public fields", KickflipPark.class.getFields().length, 0);
        c.end();
    }

    /** Names of arguments and 'throws' too; the class may have its lines in an order of its own. */
    private static void wordForWord() throws IOException {
        List<String> written = new ArrayList<>();
        for (String line : Files.readAllLines(Path.of("src/main/java/KickflipPark.java"))) {
            if (line.strip().startsWith("public ")) {
                written.add(line.replaceFirst(" \\{$", "").strip());
            }
        }
        List<String> promised = FACE.lines().toList();
        for (String line : promised) {
            c.due("the class has " + line, written.contains(line), true);
        }
        for (String line : written) {
            c.due("the document has " + line, promised.contains(line), true);
        }
    }
}
