import java.lang.reflect.InvocationTargetException;
import java.lang.reflect.Method;
import java.util.ArrayList;
import java.util.HashMap;
import java.util.List;
import java.util.Map;

/** A land and the oracle of it: each call goes to both, and the answers have to be alike. */
final class Both {
    private static final Map<String, Method> FACE = new HashMap<>();

    static {
        for (Method method : Blazonry.class.getDeclaredMethods()) {
            if (java.lang.reflect.Modifier.isPublic(method.getModifiers())) {
                FACE.put(method.getName(), method);
            }
        }
    }

    final Blazonry land = new Blazonry();
    final Oracle oracle = new Oracle();
    final List<String> calls = new ArrayList<>();
    final Map<String, Integer> seen;
    private final String name;
    boolean isRight = true;

    Both(String name, Map<String, Integer> seen) {
        this.name = name;
        this.seen = seen;
    }

    String ask(String call, int... arguments) {
        String want;
        try {
            want = String.valueOf(oracle.call(call, arguments));
        } catch (RuntimeException thrown) {
            want = "throws." + thrown.getClass().getSimpleName();
        }
        String got = answer(call, arguments);
        StringBuilder text = new StringBuilder(call).append('(');
        for (int argument : arguments) {
            text.append(argument).append(',');
        }
        text.append(")=").append(want);
        calls.add(text.toString());
        seen.merge(call + (want.startsWith("throws") ? " " + want : ""), 1, Integer::sum);
        if (isRight && !want.equals(got)) {
            isRight = false;
            System.out.println(name + ", the last calls: " + calls.subList(Math.max(0, calls.size() - 30), calls.size()));
        }
        Check.same(name + " " + call, want, got);
        return want;
    }

    private String answer(String call, int... arguments) {
        Method method = FACE.get(call);
        Object[] given = new Object[arguments.length];
        for (int i = 0; i < given.length; i++) {
            given[i] = method.getParameterTypes()[i] == boolean.class ? (Object) (arguments[i] == 1)
                    : (Object) arguments[i];
        }
        try {
            return String.valueOf(method.invoke(land, given));
        } catch (InvocationTargetException thrown) {
            return "throws." + thrown.getCause().getClass().getSimpleName();
        } catch (IllegalAccessException | IllegalArgumentException wrong) {
            throw new AssertionError(wrong);
        }
    }
}
