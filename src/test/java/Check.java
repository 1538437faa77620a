import java.util.ArrayList;
import java.util.List;

/** Counts what is not as it is due, for tests with a main method. */
final class Check {
    /** A call that answers something or throws. */
    interface Call {
        Object answer();
    }

    private static int wrong;
    private static int done;

    private Check() {
    }

    /** The answer of a call, or the name of the exception that it throws. */
    static String told(Call call) {
        try {
            return String.valueOf(call.answer());
        } catch (RuntimeException thrown) {
            return "throws." + thrown.getClass().getSimpleName();
        }
    }

    static void due(String what, Object want, Call call) {
        same(what, String.valueOf(want), told(call));
    }

    static void same(String what, String want, String got) {
        done++;
        if (!want.equals(got)) {
            wrong++;
            if (wrong <= 20) {
                System.out.println(what + " answered " + got + ", due is " + want);
            }
        }
    }

    /** The call throws this, and every question is answered as before. */
    static void refused(Blazonry land, String what, Class<? extends RuntimeException> want, Call call) {
        String before = State.of(land);
        due(what, "throws." + want.getSimpleName(), call);
        same(what + " changes nothing", before, State.of(land));
    }

    static void end() {
        System.out.println(done + " checks, " + wrong + " wrong");
        if (wrong > 0 || done == 0) {
            System.exit(1);
        }
        done = 0;
    }

    static Blazonry typed(Blazonry land, int... words) {
        land.erase();
        for (int word : words) {
            land.type(word);
        }
        return land;
    }

    static Blazonry row(int... words) {
        return typed(new Blazonry(), words);
    }

    static List<Integer> fewestOf(int... words) {
        Blazonry land = row(words);
        List<Integer> told = new ArrayList<>();
        for (int i = 0; i < land.fewest(); i++) {
            told.add(land.fewestAt(i));
        }
        return told;
    }

    static List<Integer> translatedOf(int tradition, int... words) {
        Blazonry land = row(words);
        List<Integer> told = new ArrayList<>();
        for (int i = 0; i < words.length - land.losses(0); i++) {
            int index = i;
            String word = told(() -> land.translated(tradition, index));
            if (word.startsWith("throws")) {
                break;
            }
            told.add(Integer.valueOf(word));
        }
        return told;
    }
}
