import java.lang.reflect.InvocationTargetException;
import java.lang.reflect.Method;
import java.lang.reflect.Modifier;

/** Every call with arguments far out throws nothing but what it declares, and that from a throw of the class itself. */
public final class FaceTest {
    private static final int[] FAR = {Integer.MIN_VALUE, -2, -1, 0, 1, 3, 4, 8, 16, 24, 40, 51, 100, Integer.MAX_VALUE};

    public static void main(String[] args) throws IllegalAccessException {
        for (Method method : Blazonry.class.getDeclaredMethods()) {
            if (Modifier.isPublic(method.getModifiers())) {
                callAll(method);
            }
        }
        Check.end();
    }

    private static Blazonry peopled() {
        Blazonry land = new Blazonry();
        land.birth(-1, -1, true);
        land.birth(-1, -1, false);
        land.birth(0, 1, true);
        land.birth(0, 1, false);
        land.birth(0, 1, false);
        Check.typed(land, 11, 9, 1, 16, 3, 22, 35, 36, 61, 51, 31).assume(0, 0);
        Check.typed(land, 11, 9, 1, 16, 3, 22, 35).assume(1, 0);
        land.marry(2, 3);
        land.sue(0, 1);
        land.death(2);
        land.death(0);
        return Check.typed(land, 3, 24, 1, 36, 69, 56, 5);
    }

    private static void callAll(Method method) throws IllegalAccessException {
        int count = method.getParameterCount();
        int ways = 1;
        for (int i = 0; i < count; i++) {
            ways *= method.getParameterTypes()[i] == boolean.class ? 2 : count == 4 ? 7 : FAR.length;
        }
        Blazonry land = peopled();
        for (int way = 0; way < ways; way++) {
            if (way % 150 == 0) {
                land = peopled();
            }
            Object[] given = new Object[count];
            int rest = way;
            for (int i = 0; i < count; i++) {
                boolean isBoolean = method.getParameterTypes()[i] == boolean.class;
                int choices = isBoolean ? 2 : count == 4 ? 7 : FAR.length;
                int choice = rest % choices;
                rest /= choices;
                given[i] = isBoolean ? (Object) (choice == 1) : (Object) FAR[count == 4 ? 2 * choice + 1 : choice];
            }
            callOne(land, method, given);
        }
    }

    private static void callOne(Blazonry land, Method method, Object[] given) throws IllegalAccessException {
        String what = method.getName() + java.util.Arrays.toString(given);
        try {
            method.invoke(land, given);
            Check.same(what, "", "");
        } catch (InvocationTargetException outer) {
            Throwable thrown = outer.getCause();
            boolean isDeclared = false;
            for (Class<?> type : method.getExceptionTypes()) {
                isDeclared |= type == thrown.getClass();
            }
            boolean isOwn = thrown.getStackTrace()[0].getClassName().equals("Blazonry")
                    && thrown.getMessage() != null && !thrown.getMessage().contains("out of bounds");
            Check.same(what + " threw " + thrown, "true", String.valueOf(isDeclared && isOwn));
        }
    }
}
