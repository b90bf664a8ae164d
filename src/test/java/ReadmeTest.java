import java.io.IOException;
import java.lang.reflect.Method;
import java.lang.reflect.Modifier;
import java.nio.file.Files;
import java.nio.file.Path;
import java.util.ArrayList;
import java.util.List;
import java.util.TreeSet;
import java.util.regex.Matcher;
import java.util.regex.Pattern;

/** README.md tells each method of the public face, and its example answers what it says. */
public final class ReadmeTest {
    private static final Pattern EXAMPLE = Pattern.compile("(?m)^office\\.(\\w+)\\(([-\\d, ]*)\\); +// (-?\\d+):");

    private static final Check check = new Check();

    public static void main(String[] args) throws IOException, ReflectiveOperationException {
        String readme = Files.readString(Path.of("README.md"));
        everyMethodIsTold(readme);
        theExampleIsRight(readme);
        check.end();
    }

    private static List<Method> face() {
        List<Method> face = new ArrayList<>();
        for (Method method : PostRates.class.getDeclaredMethods()) {
            if (Modifier.isPublic(method.getModifiers())) {
                face.add(method);
            }
        }
        return face;
    }

    private static void everyMethodIsTold(String readme) {
        check.due("the constructor is told", readme.contains("\n- `PostRates()`: ") ? 1 : 0, 1);
        for (Method method : face()) {
            String begins = "\n- `" + method.getReturnType() + " " + method.getName() + "(";
            check.due(method + " is told", readme.contains(begins) ? 1 : 0, 1);
        }
    }

    private static void theExampleIsRight(String readme) throws ReflectiveOperationException {
        PostRates office = new PostRates();
        TreeSet<String> shown = new TreeSet<>();
        Matcher line = EXAMPLE.matcher(readme);
        while (line.find()) {
            long got = called(office, line.group(1), line.group(2));
            check.due(line.group(1) + "(" + line.group(2) + ")", got, Long.parseLong(line.group(3)));
            shown.add(line.group(1));
        }
        check.due("methods of the face that the example shows", shown.size(), face().size());
    }

    private static long called(PostRates office, String name, String numbers) throws ReflectiveOperationException {
        for (Method method : face()) {
            if (method.getName().equals(name)) {
                return ((Number) method.invoke(office, arguments(numbers))).longValue();
            }
        }
        throw new NoSuchMethodException(name);
    }

    private static Object[] arguments(String numbers) {
        if (numbers.isBlank()) {
            return new Object[0];
        }
        String[] texts = numbers.split(", *");
        Object[] values = new Object[texts.length];
        for (int i = 0; i < texts.length; i++) {
            values[i] = Integer.valueOf(texts[i].trim());
        }
        return values;
    }
}
