import java.io.ByteArrayOutputStream;
import java.io.IOException;
import java.io.PrintStream;
import java.net.URL;
import java.net.URLClassLoader;
import java.nio.file.Files;
import java.nio.file.Path;
import java.util.ArrayList;
import java.util.List;
import java.util.regex.Matcher;
import java.util.regex.Pattern;
import java.util.spi.ToolProvider;

/** The program that README.md shows: it compiles with the class, and each line prints what stands behind it. */
public final class ReadmeTest {
    private static final Checks c = new Checks("ReadmeTest");
    private static final Path HERE = Path.of("build/readme");
    private static final Pattern PRINTS = Pattern.compile("System\\.out\\.println\\((.*)\\); // (.*)$", Pattern.MULTILINE);

    public static void main(String[] args) throws Exception {
        String program = program(Files.readString(Path.of("README.md")));
        List<String> calls = new ArrayList<>();
        List<String> due = new ArrayList<>();
        for (Matcher line = PRINTS.matcher(program); line.find();) {
            calls.add(line.group(1));
            due.add(line.group(2));
        }
        c.due("each line that prints tells what", program.split("println", -1).length - 1, due.size());
        c.due("the example prints", due.isEmpty(), false);
        compile(program);
        List<String> got = printed();
        c.due("how many lines are printed", got.size(), due.size());
        for (int i = 0; i < due.size(); i++) {
            c.due(calls.get(i), i < got.size() ? got.get(i) : "nothing", due.get(i));
        }
        c.end();
    }

    private static String program(String page) {
        Matcher block = Pattern.compile("```java\n(.*?)```", Pattern.DOTALL).matcher(page);
        c.due("README.md shows a program", block.find(), true);
        String program = block.group(1);
        c.due("README.md shows one program alone", block.find(), false);
        return program;
    }

    private static void compile(String program) throws IOException {
        Files.createDirectories(HERE);
        Path mine = Files.writeString(HERE.resolve("Mine.java"), program);
        int code = ToolProvider.findFirst("javac").orElseThrow().run(System.out, System.out,
                "-d", HERE.toString(), "src/main/java/KickflipPark.java", mine.toString());
        c.due("javac of the example", code, 0);
    }

    /** By a loader of its own, so that nothing but what README.md's own commands compile is used. */
    private static List<String> printed() throws Exception {
        PrintStream before = System.out;
        ByteArrayOutputStream out = new ByteArrayOutputStream();
        URL[] classes = {HERE.toUri().toURL()};
        try (URLClassLoader loader = new URLClassLoader(classes, ClassLoader.getPlatformClassLoader())) {
            System.setOut(new PrintStream(out, true));
            loader.loadClass("Mine").getMethod("main", String[].class).invoke(null, (Object) new String[0]);
        } finally {
            System.setOut(before);
        }
        return out.toString().lines().toList();
    }
}
