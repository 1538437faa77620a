import java.io.IOException;
import java.lang.reflect.InvocationTargetException;
import java.lang.reflect.Method;
import java.lang.reflect.Modifier;
import java.nio.file.Files;
import java.nio.file.Path;
import java.util.HashMap;
import java.util.Map;
import java.util.Set;
import java.util.TreeSet;
import java.util.regex.Matcher;
import java.util.regex.Pattern;

/** README.md is true: its example answers what stands behind each call, it names each call, and what it runs is there. */
public final class ReadmeTest {
    private static final Pattern CALL = Pattern.compile("(?:int (\\w+) = )?land\\.(\\w+)\\((.*?)\\); *// (\\S+?)(?::.*)?");
    private static final Map<String, Method> FACE = new HashMap<>();

    public static void main(String[] args) throws IOException, IllegalAccessException {
        for (Method method : Blazonry.class.getDeclaredMethods()) {
            if (Modifier.isPublic(method.getModifiers())) {
                FACE.put(method.getName(), method);
            }
        }
        String text = Files.readString(Path.of("README.md"));
        example(text);
        calls(text);
        commands(text);
        Check.end();
    }

    private static void example(String text) throws IllegalAccessException {
        String[] lines = text.substring(text.indexOf("```java\n") + 8, text.indexOf("```\n")).split("\n");
        Check.same("the first line", "Blazonry land = new Blazonry();", lines[0]);
        Check.same("an example", "true", String.valueOf(lines.length > 20));
        Blazonry land = new Blazonry();
        Map<String, Integer> names = new HashMap<>();
        for (int i = 1; i < lines.length; i++) {
            Matcher line = CALL.matcher(lines[i]);
            if (!line.matches() || !FACE.containsKey(line.group(2))) {
                Check.same("line " + i, "a call with its answer", lines[i]);
                continue;
            }
            String got = answer(land, FACE.get(line.group(2)), line.group(3), names);
            Check.same(lines[i], line.group(4), got);
            if (line.group(1) != null) {
                names.put(line.group(1), Integer.valueOf(got));
            }
        }
    }

    private static String answer(Blazonry land, Method method, String given, Map<String, Integer> names)
            throws IllegalAccessException {
        String[] told = given.isEmpty() ? new String[0] : given.split(", ");
        Object[] arguments = new Object[told.length];
        for (int i = 0; i < told.length; i++) {
            if (told[i].equals("true") || told[i].equals("false")) {
                arguments[i] = Boolean.valueOf(told[i]);
            } else {
                arguments[i] = names.containsKey(told[i]) ? names.get(told[i]) : Integer.valueOf(told[i]);
            }
        }
        try {
            return String.valueOf(method.invoke(land, arguments));
        } catch (InvocationTargetException thrown) {
            return thrown.getCause().getClass().getSimpleName();
        }
    }

    /** The list of calls behind the example names each call of the face once, and no other one. */
    private static void calls(String text) {
        String list = text.substring(text.indexOf("- The row of words"), text.indexOf("Every call that is not possible"));
        Set<String> named = new TreeSet<>();
        Matcher word = Pattern.compile("`(\\w+)`").matcher(list);
        while (word.find()) {
            Check.same(word.group(1) + " once", "true", String.valueOf(named.add(word.group(1))));
        }
        Check.same("the calls", new TreeSet<>(FACE.keySet()).toString(), named.toString());
    }

    private static void commands(String text) {
        for (String command : new String[] {"    javac -d build src/main/java/Blazonry.java\n", "    .ci/run\n",
            "    java -ea -cp build/own RankTest\n"}) {
            Check.same(command, "true", String.valueOf(text.contains("\n\n" + command)));
        }
        Check.same(".ci/run", "true", String.valueOf(Files.isExecutable(Path.of(".ci/run"))));
        for (String file : new String[] {"main/java/Blazonry", "test/java/RankTest", "test/java/Oracle"}) {
            Check.same(file, "true", String.valueOf(Files.exists(Path.of("src/" + file + ".java"))));
        }
    }
}
