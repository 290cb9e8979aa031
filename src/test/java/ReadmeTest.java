import java.io.IOException;
import java.lang.reflect.InvocationTargetException;
import java.lang.reflect.Method;
import java.nio.file.Files;
import java.nio.file.Path;
import java.util.Set;
import java.util.TreeSet;
import java.util.regex.Matcher;
import java.util.regex.Pattern;
import java.util.stream.Stream;

/** README.md tells what is so: its example's answers, its calls, what they throw, and its tests. */
public final class ReadmeTest {
    private static final String NUMBER = "(-?\\d+|0x[0-9A-F]+)";

    public static void main(String[] args) throws IOException, ReflectiveOperationException {
        String text = Files.readString(Path.of("README.md"));
        example(text);
        calls(text);
        tests(text);
        Asked.end();
    }

    /** Each line of the example is called; the number that its comment begins with is due. */
    private static void example(String text) throws ReflectiveOperationException {
        FilterGuard guard = new FilterGuard();
        int lines = 0;
        Matcher line = Pattern.compile("(?m)^guard\\.(\\w+)\\((.*)\\); +// " + NUMBER + "\\b").matcher(text);
        while (line.find()) {
            Object answer = called(guard, line.group(1), line.group(2).isEmpty() ? new String[0] : line.group(2).split(", "));
            Asked.due("the example's " + line.group(1) + "(" + line.group(2) + ")", Long.decode(line.group(3)),
                ((Number) answer).longValue());
            lines++;
        }
        Matcher any = Pattern.compile("(?m)^guard\\.").matcher(text);
        Asked.due("lines of the example that tell an answer", any.results().count(), lines);
        Asked.due("a line of the example for each of at least ten answers", 1, lines >= 10 ? 1 : 0);
    }

    private static Object called(FilterGuard guard, String name, String[] numbers) throws ReflectiveOperationException {
        Method method = theMethod(name);
        Object[] given = new Object[numbers.length];
        for (int n = 0; n < numbers.length; n++) {
            long number = Long.decode(numbers[n]);
            if (method.getParameterTypes()[n] == int.class) {
                given[n] = (int) number;
            } else {
                given[n] = number;
            }
        }
        try {
            return method.invoke(guard, given);
        } catch (InvocationTargetException e) {
            System.out.println(name + " threw " + e.getCause());
            return Long.MIN_VALUE;
        }
    }

    private static Method theMethod(String name) throws NoSuchMethodException {
        for (Method method : FilterGuard.class.getDeclaredMethods()) {
            if (method.getName().equals(name)) {
                return method;
            }
        }
        throw new NoSuchMethodException(name);
    }

    /** The table of calls has each one of the face, with the exceptions of its heading in their order. */
    private static void calls(String text) throws NoSuchMethodException {
        Set<String> told = new TreeSet<>();
        Matcher row = Pattern.compile("(?m)^\\| `(?:int|long|void) (\\w+)\\(([^)]*)\\)` \\|.*\\| ([^|]*) \\|$").matcher(text);
        while (row.find()) {
            Method method = theMethod(row.group(1));
            told.add(method.getName());
            int parameters = row.group(2).isEmpty() ? 0 : row.group(2).split(", ").length;
            Asked.due("parameters of " + method, method.getParameterCount(), parameters);
            StringBuilder words = new StringBuilder();
            for (Class<?> thrown : method.getExceptionTypes()) {
                words.append(word(thrown)).append(' ');
            }
            StringBuilder found = new StringBuilder();
            Matcher word = Pattern.compile(": (bad|refused|missing|IndexOutOfBoundsException)").matcher(row.group(3));
            while (word.find()) {
                found.append(word.group(1)).append(' ');
            }
            Asked.due(method.getName() + " throws '" + words + "', told is '" + found + "'", 1,
                found.toString().contentEquals(words) ? 1 : 0);
        }
        Set<String> face = new TreeSet<>();
        for (Method method : FilterGuard.class.getDeclaredMethods()) {
            if (java.lang.reflect.Modifier.isPublic(method.getModifiers())) {
                face.add(method.getName());
            }
        }
        Asked.due("calls told " + told + ", of " + face, 1, told.equals(face) ? 1 : 0);
    }

    private static String word(Class<?> thrown) {
        if (thrown == IllegalArgumentException.class) {
            return "bad";
        }
        if (thrown == IllegalStateException.class) {
            return "refused";
        }
        return thrown == IndexOutOfBoundsException.class ? thrown.getSimpleName() : "missing";
    }

    /** Each test is told of, and each one that's told of is there. */
    private static void tests(String text) throws IOException {
        Set<String> there = new TreeSet<>();
        try (Stream<Path> files = Files.list(Path.of("src/test/java"))) {
            files.map(file -> file.getFileName().toString()).filter(name -> name.endsWith("Test.java"))
                .forEach(name -> there.add(name.replace(".java", "")));
        }
        Set<String> told = new TreeSet<>();
        Matcher name = Pattern.compile("`(\\w+Test)`").matcher(text);
        while (name.find()) {
            told.add(name.group(1));
        }
        Asked.due("tests told " + told + ", of " + there, 1, told.equals(there) ? 1 : 0);
        Asked.due(".ci/run can be run", 1, Files.isExecutable(Path.of(".ci/run")) ? 1 : 0);
    }
}
