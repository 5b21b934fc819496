import java.io.IOException;
import java.lang.reflect.InvocationTargetException;
import java.lang.reflect.Method;
import java.lang.reflect.Modifier;
import java.nio.file.DirectoryStream;
import java.nio.file.Files;
import java.nio.file.Path;
import java.util.Set;
import java.util.TreeSet;
import java.util.regex.Matcher;
import java.util.regex.Pattern;

/** README.md: the calls it tells answer what it tells, and every method and every test stands in it. */
final class ReadmeTest {
    private static final Pattern CALL = Pattern.compile("ring\\.(\\w+)\\((.*)\\); +// answers (-?\\w+)\\b.*");

    public static void main(String[] args) throws IOException, ReflectiveOperationException {
        String readme = Files.readString(Path.of("README.md"));
        Set<String> called = runCalls(readme);
        for (Method method : NoiseRing.class.getDeclaredMethods()) {
            if (Modifier.isPublic(method.getModifiers())) {
                Check.yes("README.md calls " + method.getName(), called.contains(method.getName()));
                Check.yes("README.md has a row for " + method.getName(), readme.contains("| `" + heading(method)));
            }
        }
        testsAreNamed(readme);
        Check.end("ReadmeTest");
    }

    private static Set<String> runCalls(String readme) throws ReflectiveOperationException {
        NoiseRing ring = new NoiseRing();
        Set<String> called = new TreeSet<>();
        for (String line : readme.split("\n")) {
            Matcher call = CALL.matcher(line);
            if (call.matches()) {
                called.add(call.group(1));
                String got = answer(ring, call.group(1), call.group(2).split(", "));
                Check.yes(line + " (but it is " + got + ")", got.equals(call.group(3)));
            } else {
                Check.no("a call without its answer: " + line, line.startsWith("ring."));
            }
        }
        return called;
    }

    private static String answer(NoiseRing ring, String name, String[] words) throws ReflectiveOperationException {
        Method method = named(name);
        Class<?>[] types = method.getParameterTypes();
        Object[] values = new Object[words.length];
        for (int i = 0; i < words.length; i++) {
            values[i] = read(types[i], words[i]);
        }
        try {
            return String.valueOf(method.invoke(ring, values));
        } catch (InvocationTargetException e) {
            return e.getCause().toString();
        }
    }

    private static Object read(Class<?> type, String word) {
        if (type == boolean.class) {
            return Boolean.valueOf(word);
        }
        if (type == long.class) {
            return Long.decode(word.replace("L", ""));
        }
        return Integer.decode(word);
    }

    private static Method named(String name) throws NoSuchMethodException {
        for (Method method : NoiseRing.class.getDeclaredMethods()) {
            if (method.getName().equals(name)) {
                return method;
            }
        }
        throw new NoSuchMethodException(name);
    }

    /** How the method begins in the document; the names of its parameters are not known here. */
    private static String heading(Method method) {
        return method.getReturnType() + " " + method.getName() + "(" + method.getParameterTypes()[0] + " ";
    }

    private static void testsAreNamed(String readme) throws IOException {
        try (DirectoryStream<Path> files = Files.newDirectoryStream(Path.of("src/test/java"), "*Test.java")) {
            for (Path file : files) {
                String name = file.getFileName().toString().replace(".java", "");
                Check.yes("README.md names " + name, readme.contains("| `" + name + "` |"));
            }
        }
    }
}
