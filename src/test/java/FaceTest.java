import java.lang.reflect.Constructor;
import java.lang.reflect.Method;
import java.lang.reflect.Modifier;
import java.nio.file.Files;
import java.nio.file.Path;
import java.util.List;
import java.util.Map;
import java.util.TreeMap;

/** The face: every signature of 'The public face', and nothing beside it. */
public final class FaceTest {
    private static final Checks c = new Checks("FaceTest");

    private static final String FACE = """
            int feature(char,int,int,int)
            int line(int,int,int)
            int build(int,int,int,int)
            int trick(char,char,char,char,int,int,int)
            int tricks()
            int base(int)
            char of(int,char)
            int athlete(int)
            int quota(int)
            int event(char,int,int)
            int enter(int,int)
            int draw(int)
            int starter(int,int)
            int start(int,int)
            boolean does(int,int,char)
            int speed()
            int end()
            int worth(int,int)
            int parts(int)
            int mark(int,int,int)
            int control(int,int,int)
            int score(int)
            int strike(int)
            int protest(int,int,int)
            int sum(int,int)
            int place(int,int)
            int heat(int,int,int)
            boolean hold(int,boolean)
            int round(int,int)
            boolean close(int)
            int points(int,int)
            int list(int)
            int listed(int)
            int hurt(int)
            int day()
            int risk(int,int,int)
            long choice(int,int)
            int seed(int)
            float fallShare()
            double meanParts()
            long checksum()
            boolean isTrue()
            """;

    public static void main(String[] args) throws java.io.IOException {
        wordForWord();
        Map<String, String> due = new TreeMap<>();
        for (String line : FACE.strip().split("\n")) {
            due.put(line.substring(line.indexOf(' ') + 1), line.substring(0, line.indexOf(' ')));
        }
        c.due("how many promised methods", due.size(), 42);
        for (Method method : KickflipPark.class.getDeclaredMethods()) {
            StringBuilder told = new StringBuilder(method.getName()).append('(');
            for (Class<?> type : method.getParameterTypes()) {
                told.append(told.charAt(told.length() - 1) == '(' ? "" : ",").append(type.getName());
            }
            told.append(')');
            if (Modifier.isPrivate(method.getModifiers())) {
                for (String face : due.keySet()) {
                    c.due("a private " + told, face.startsWith(method.getName() + "("), false);
                }
            } else {
                c.due("the type of " + told, method.getReturnType().getName(), due.get(told.toString()));
                c.due(told + " is public alone", Modifier.toString(method.getModifiers()), "public");
            }
        }
        long open = java.util.Arrays.stream(KickflipPark.class.getDeclaredMethods())
                .filter(m -> Modifier.isPublic(m.getModifiers())).count();
        c.due("how many public methods", open, 42);
        c.due("the class", Modifier.toString(KickflipPark.class.getModifiers()), "public final");
        Constructor<?>[] constructors = KickflipPark.class.getDeclaredConstructors();
        c.due("constructors", constructors.length, 1);
        c.due("the constructor", constructors[0].toString(), "public KickflipPark()");
        c.due("public fields", KickflipPark.class.getFields().length, 0);
        c.end();
    }

    /** Names of arguments and 'throws' too, as the document's face has them. */
    private static void wordForWord() throws java.io.IOException {
        List<String> written = openLines(Path.of("src/main/java/KickflipPark.java"));
        List<String> promised = openLines(Path.of("../shared/DOC.md"));
        c.due("lines of the document's face", promised.size(), 44);
        c.due("lines of the face", String.join("\n", written), String.join("\n", promised));
    }

    private static List<String> openLines(Path file) throws java.io.IOException {
        return Files.readAllLines(file).stream().filter(line -> line.strip().startsWith("public "))
                .map(line -> line.replaceFirst(" *[;{]$", "").strip()).sorted().toList();
    }
}
