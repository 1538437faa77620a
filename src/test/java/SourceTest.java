import java.io.IOException;
import java.lang.reflect.Constructor;
import java.lang.reflect.Field;
import java.lang.reflect.Method;
import java.lang.reflect.Modifier;
import java.nio.file.Files;
import java.nio.file.Path;
import java.util.ArrayList;
import java.util.Arrays;
import java.util.List;
import java.util.Set;
import java.util.TreeSet;
import java.util.regex.Matcher;
import java.util.regex.Pattern;

/** The public face as the document tells it, and those rules of the language that can be seen from outside. */
public final class SourceTest {
    private static final Path DOCUMENT = Path.of("../shared/DOC.md");
    private static final Path SOURCE = Path.of("src/main/java/Blazonry.java");

    public static void main(String[] args) throws IOException {
        face();
        members();
        text(Files.readString(SOURCE));
        Check.end();
    }

    private static String signature(Method method) {
        List<String> parameters = new ArrayList<>();
        for (Class<?> type : method.getParameterTypes()) {
            parameters.add(type.getSimpleName());
        }
        List<String> thrown = new ArrayList<>();
        for (Class<?> type : method.getExceptionTypes()) {
            thrown.add(type.getSimpleName());
        }
        return method.getReturnType() + " " + method.getName() + parameters + thrown;
    }

    /** The methods that the document lists are those that the class has, and none other. */
    private static void face() throws IOException {
        Set<String> told = new TreeSet<>();
        Matcher line = Pattern.compile("(?m)^ {4}public (\\w+) (\\w+)\\((.*?)\\)(?: throws (.*))?;$")
                .matcher(Files.readString(DOCUMENT));
        while (line.find()) {
            List<String> parameters = new ArrayList<>();
            for (String parameter : line.group(3).split(", ")) {
                if (!parameter.isEmpty()) {
                    parameters.add(parameter.split(" ")[0]);
                }
            }
            List<String> thrown = line.group(4) == null ? List.of() : Arrays.asList(line.group(4).split(", "));
            told.add(line.group(1) + " " + line.group(2) + parameters + thrown);
        }
        Set<String> had = new TreeSet<>();
        for (Method method : Blazonry.class.getDeclaredMethods()) {
            if (!Modifier.isPrivate(method.getModifiers())) {
                had.add(signature(method));
            }
        }
        Check.same("the face", told.toString(), had.toString());
        Check.same("how many methods", "62", String.valueOf(told.size()));
    }

    private static void members() {
        Check.same("final", "true", String.valueOf(Modifier.isFinal(Blazonry.class.getModifiers())));
        Constructor<?>[] constructors = Blazonry.class.getDeclaredConstructors();
        Check.same("one constructor", "1", String.valueOf(constructors.length));
        Check.same("of nothing", "public Blazonry()", constructors[0].toString());
        Set<String> names = new TreeSet<>();
        for (Method method : Blazonry.class.getDeclaredMethods()) {
            if (Modifier.isPublic(method.getModifiers())) {
                names.add(method.getName());
            }
        }
        Class<?>[] inside = Blazonry.class.getDeclaredClasses();
        Check.same("at most twelve classes", "true", String.valueOf(inside.length <= 11));
        fields(Blazonry.class);
        for (Class<?> each : inside) {
            String flags = Modifier.toString(each.getModifiers());
            Check.same("modifiers of " + each, "private static final", flags);
            fields(each);
            for (Method method : each.getDeclaredMethods()) {
                Check.same(method + " has a name of its own", "false", String.valueOf(names.contains(method.getName())));
            }
        }
        for (Method method : Blazonry.class.getDeclaredMethods()) {
            boolean isNamed = Modifier.isPublic(method.getModifiers()) || !names.contains(method.getName());
            Check.same(method + " has a name of its own", "true", String.valueOf(isNamed));
        }
    }

    private static void fields(Class<?> of) {
        int own = 0;
        for (Field field : of.getDeclaredFields()) {
            boolean isStatic = Modifier.isStatic(field.getModifiers());
            own += isStatic ? 0 : 1;
            if (isStatic) {
                Check.same(field + " is final", "true", String.valueOf(Modifier.isFinal(field.getModifiers())));
            }
            if (of == Blazonry.class) {
                Check.same(field + " is private", "true", String.valueOf(Modifier.isPrivate(field.getModifiers())));
            }
        }
        Check.same("at most twenty fields of " + of, "true", String.valueOf(own <= 20));
    }

    private static void text(String source) {
        String code = source.replaceAll("(?s)/\\*.*?\\*/", "").replaceAll("//[^\n]*", "").replaceAll("\"[^\"\n]*\"", "\"\"");
        String[] none = {"->", "::", "\\bcatch\\b", "\\btry\\b", "\\bfinally\\b", "\\bassert\\b", "\\bsynchronized\\b",
            "\\bpackage\\b", "\\bprotected\\b", "\\bSystem\\.(?!arraycopy)", "\\bMath\\.\\w+Exact", "\\bObject\\b",
            "\\+ \"", "\" \\+", "\\bstatic \\{", "\\bThread\\b", "\\bRandom\\b", "\\bStream\\b", "\\bgetClass\\b"};
        for (String pattern : none) {
            Check.same("no " + pattern, "false", String.valueOf(Pattern.compile(pattern).matcher(code).find()));
        }
        Set<String> imports = new TreeSet<>();
        Matcher line = Pattern.compile("(?m)^import (.*);$").matcher(code);
        while (line.find()) {
            imports.add(line.group(1));
        }
        Check.same("imports", "[java.util.Arrays, java.util.NoSuchElementException]", imports.toString());
        lengths(source.split("\n"));
    }

    /** No method is longer than sixty lines: a method ends with the brace that stands below its first word. */
    private static void lengths(String[] lines) {
        Pattern start = Pattern.compile("^( {4}| {8})(?!return|private static final class|public final class)\\w[^;=]*[({,]$");
        int from = -1;
        String indent = "";
        for (int i = 0; i < lines.length; i++) {
            if (from < 0 && start.matcher(lines[i]).find() && lines[i].contains("(")) {
                from = i;
                indent = lines[i].substring(0, lines[i].length() - lines[i].stripLeading().length());
            } else if (from >= 0 && lines[i].equals(indent + "}")) {
                Check.same("length of " + lines[from].strip(), "true", String.valueOf(i - from < 60));
                from = -1;
            }
        }
    }
}
