import java.io.IOException;
import java.lang.reflect.Constructor;
import java.lang.reflect.Field;
import java.lang.reflect.Method;
import java.lang.reflect.Modifier;
import java.nio.file.Files;
import java.nio.file.Path;
import java.util.List;
import java.util.regex.Matcher;
import java.util.regex.Pattern;

/** The rules of ../shared/LANGUAGE.md that the text of the class or its members show. */
public final class LanguageTest {
    private static final Checks c = new Checks("LanguageTest");

    /** Words of rules 1 to 6 and 13 that the class may not have, as patterns. */
    private static final List<String> FORBIDDEN = List.of(
            "^package ", "->", "::", "\\bsynchronized\\b", "\\bassert\\b", "\\bfinally\\b", "\\bprotected\\b",
            "static \\{", "Exact\\(", "\\b(equals|hashCode|toString)\\(\\) ?\\{", "\\bgetMessage\\b",
            "System\\.(?!arraycopy)", "Math\\.(?!max|min|abs|floorDiv|floorMod)", "\\bNaN\\b", "\\bclass\\)", "\" \\+", "\\+ \"",
            "catch \\((ArrayIndex|NullPointer|ClassCast|NegativeArray|ArrayStore|Exception|Throwable)");

    private static final List<String> IMPORTS = List.of("java.util.ArrayList", "java.util.Arrays", "java.util.Iterator",
            "java.util.List", "java.util.NoSuchElementException");

    public static void main(String[] args) throws IOException {
        List<String> lines = Files.readAllLines(Path.of("src/main/java/KickflipPark.java"));
        words(lines);
        lengths(lines);
        members(KickflipPark.class);
        Class<?>[] inside = KickflipPark.class.getDeclaredClasses();
        c.due("some twelve classes", inside.length < 12, true);
        for (Class<?> type : inside) {
            int modifiers = type.getModifiers();
            c.due(type.getName() + " is static", Modifier.isStatic(modifiers), true);
            c.due(type.getName() + " is open", Modifier.isPublic(modifiers) || Modifier.isProtected(modifiers), false);
            members(type);
        }
        c.end();
    }

    private static void words(List<String> lines) {
        for (int i = 0; i < lines.size(); i++) {
            String line = lines.get(i);
            for (String word : FORBIDDEN) {
                c.due("line " + (i + 1) + " has " + word, Pattern.compile(word).matcher(line).find(), false);
            }
            c.due("line " + (i + 1) + " is written in signs 1 to 127", line.chars().allMatch(sign -> sign > 0 && sign < 128), true);
            Matcher imported = Pattern.compile("^import (.*);").matcher(line);
            c.due("line " + (i + 1) + " imports", imported.find() && !IMPORTS.contains(imported.group(1)), false);
        }
    }

    /** A method ends where a brace stands as far in as it began. */
    private static void lengths(List<String> lines) {
        int began = 0;
        for (int i = 0; i < lines.size(); i++) {
            String line = lines.get(i);
            if (line.matches(" {4,8}\\w.*\\) .*\\{")) {
                began = i;
            }
            if (line.matches(" {4,8}\\}") && lines.get(began).indexOf(lines.get(began).strip()) == line.indexOf('}')) {
                c.due("the method on line " + (began + 1) + " has at most 60 lines", i - began < 60, true);
            }
        }
    }

    private static void members(Class<?> type) {
        int own = 0;
        for (Field field : type.getDeclaredFields()) {
            if (Modifier.isStatic(field.getModifiers())) {
                c.due(type.getName() + "." + field.getName() + " is final", Modifier.isFinal(field.getModifiers()), true);
            } else {
                own++;
            }
            c.due(type.getName() + "." + field.getName() + " is private", Modifier.isPrivate(field.getModifiers()), true);
        }
        c.due(type.getName() + " has some twenty fields", own <= 20, true);
        for (Method method : type.getDeclaredMethods()) {
            c.due(type.getName() + "." + method.getName() + " takes at most seven", method.getParameterCount() <= 7, true);
        }
        for (Constructor<?> constructor : type.getDeclaredConstructors()) {
            c.due(type.getName() + " takes at most seven", constructor.getParameterCount() <= 7, true);
        }
    }
}
