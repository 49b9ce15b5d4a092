import java.lang.reflect.InvocationTargetException;
import java.lang.reflect.Method;
import java.util.ArrayList;
import java.util.HashMap;
import java.util.List;
import java.util.Map;

/** Makes calls that are told as texts, as "feature('r', 0, 99, 0)", on one object, and tells the answers as texts. */
final class Player {
    /** A call, and the answer that is due: null if any will do but an exception. */
    record Call(String name, List<String> arguments, String due) {
        boolean isRefused() {
            return due != null && due.startsWith("throws ");
        }

        @Override
        public String toString() {
            return name + "(" + String.join(", ", arguments) + ")";
        }
    }

    private static final Map<String, Method> FACE = face();

    private final Object played;
    private int calls = 0;

    /** On a park, or on the model of one. */
    Player(Object played) {
        this.played = played;
    }

    private static Map<String, Method> face() {
        Map<String, Method> face = new HashMap<>();
        for (Method method : KickflipPark.class.getMethods()) {
            if (method.getDeclaringClass() == KickflipPark.class) {
                face.put(method.getName(), method);
            }
        }
        return face;
    }

    /** Calls stand on lines of their own or with ';' between, each with "= answer" behind it or without. */
    static List<Call> parsed(String told) {
        List<Call> calls = new ArrayList<>();
        for (String part : told.split("[;\n]")) {
            String text = part.strip();
            if (!text.isEmpty()) {
                int opens = text.indexOf('(');
                int closes = text.lastIndexOf(')');
                String due = text.substring(closes + 1).replaceFirst("^\\s*=", "").strip();
                String within = text.substring(opens + 1, closes).strip();
                calls.add(new Call(text.substring(0, opens).strip(),
                        within.isEmpty() ? List.of() : List.of(within.split("\\s*,\\s*")), due.isEmpty() ? null : due));
            }
        }
        return calls;
    }

    int calls() {
        return calls;
    }

    String answer(Call call) {
        calls++;
        Method promised = FACE.get(call.name());
        if (promised == null || promised.getParameterCount() != call.arguments().size()) {
            throw new AssertionError("the document has no " + call);
        }
        Class<?>[] types = promised.getParameterTypes();
        Object[] arguments = new Object[types.length];
        for (int i = 0; i < types.length; i++) {
            arguments[i] = argument(call.arguments().get(i), types[i]);
        }
        try {
            Method method = played.getClass().getDeclaredMethod(call.name(), types);
            method.setAccessible(true);
            Object answer = method.invoke(played, arguments);
            return answer instanceof Character ? "'" + answer + "'" : String.valueOf(answer);
        } catch (InvocationTargetException e) {
            return "throws " + e.getCause().getClass().getSimpleName();
        } catch (ReflectiveOperationException e) {
            throw new AssertionError(e);
        }
    }

    /** Letters stand between '' or, if no key writes them, as numbers; MIN and MAX are the bounds of an int. */
    private static Object argument(String told, Class<?> type) {
        if (type == boolean.class) {
            return Boolean.valueOf(told);
        }
        if (type == char.class) {
            return told.charAt(0) == '\'' ? told.charAt(1) : (char) Integer.parseInt(told);
        }
        return told.equals("MIN") ? Integer.MIN_VALUE : told.equals("MAX") ? Integer.MAX_VALUE : Integer.parseInt(told);
    }
}
