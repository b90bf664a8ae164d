import java.io.IOException;
import java.lang.reflect.Executable;
import java.lang.reflect.Field;
import java.lang.reflect.Method;
import java.lang.reflect.Modifier;
import java.nio.file.Files;
import java.nio.file.Path;
import java.util.ArrayList;
import java.util.HashSet;
import java.util.List;
import java.util.Set;
import java.util.regex.Pattern;

/** The rules of ../shared/LANGUAGE.md that can be seen from the text and the shape of the class. */
public final class LanguageTest {
    private static final Path SOURCES = Path.of("src/main/java");
    private static final String[] FORBIDDEN = {
        "package", "throw", "throws", "try", "catch", "finally", "synchronized", "assert", "protected", "volatile",
        "native", "import", "hashCode", "toString", "static\\s*\\{", "System\\.(?!arraycopy)\\w+", "\\w+Exact",
    };

    private static final Set<Class<?>> CONSTANT_TYPES = Set.of(int.class, long.class, boolean.class, char.class,
            String.class, int[].class, long[].class, char[].class, byte[].class);

    private static final Check check = new Check();

    public static void main(String[] args) throws IOException {
        oneFile();
        forbiddenWords(withoutComments(Files.readString(SOURCES.resolve("PostRates.java"))));
        noPrivateMethodNamedAsAPublicOne();
        for (Class<?> inside : PostRates.class.getDeclaredClasses()) {
            nestedIsStaticAndNotPublic(inside);
        }
        check.due("classes are some twelve at most", Math.max(12, allClasses().size()), 12);
        check.due("classes, local and anonymous ones too",
                PostRates.class.getNestMembers().length, allClasses().size());
        for (Class<?> part : allClasses()) {
            staticFieldsAreFinal(part);
            staticFieldsAreConstants(part);
            fewFields(part);
            fewParameters(part);
        }
        check.end();
    }

    private static void oneFile() {
        String[] names = SOURCES.toFile().list();
        check.due("files under " + SOURCES, names == null ? 0 : names.length, 1);
    }

    private static String withoutComments(String text) {
        return text.replaceAll("(?s)/\\*.*?\\*/", " ").replaceAll("//[^\n]*", " ");
    }

    private static void forbiddenWords(String code) {
        for (String word : FORBIDDEN) {
            Pattern pattern = Pattern.compile("(?<!\\w)" + word + "(?!\\w)");
            check.due("places with " + word, pattern.matcher(code).results().count(), 0);
        }
        check.due("method references", code.contains("::") ? 1 : 0, 0);
        check.due("lambdas", code.contains("->") ? 1 : 0, 0);
    }

    private static void noPrivateMethodNamedAsAPublicOne() {
        Set<String> publicNames = new HashSet<>();
        for (Method method : PostRates.class.getDeclaredMethods()) {
            if (Modifier.isPublic(method.getModifiers())) {
                publicNames.add(method.getName());
            }
        }
        for (Class<?> part : allClasses()) {
            for (Method method : part.getDeclaredMethods()) {
                boolean ofTheFace = part == PostRates.class && Modifier.isPublic(method.getModifiers());
                boolean named = publicNames.contains(method.getName());
                check.due(method + " has a name of the face", named && !ofTheFace ? 1 : 0, 0);
            }
        }
    }

    private static List<Class<?>> allClasses() {
        List<Class<?>> all = new ArrayList<>(List.of(PostRates.class.getDeclaredClasses()));
        all.add(PostRates.class);
        return all;
    }

    private static void nestedIsStaticAndNotPublic(Class<?> inside) {
        int modifiers = inside.getModifiers();
        check.due(inside + " is static", Modifier.isStatic(modifiers) ? 1 : 0, 1);
        check.due(inside + " is public or protected", modifiers & (Modifier.PUBLIC | Modifier.PROTECTED), 0);
    }

    private static void staticFieldsAreFinal(Class<?> part) {
        for (Field field : part.getDeclaredFields()) {
            if (Modifier.isStatic(field.getModifiers())) {
                check.due(field + " is final", Modifier.isFinal(field.getModifiers()) ? 1 : 0, 1);
            }
        }
    }

    private static void staticFieldsAreConstants(Class<?> part) {
        for (Field field : part.getDeclaredFields()) {
            if (Modifier.isStatic(field.getModifiers())) {
                check.due(field + " is a constant", CONSTANT_TYPES.contains(field.getType()) ? 1 : 0, 1);
            }
        }
    }

    private static void fewFields(Class<?> part) {
        int fields = 0;
        for (Field field : part.getDeclaredFields()) {
            fields += Modifier.isStatic(field.getModifiers()) ? 0 : 1;
        }
        check.due(part + ": some twenty fields at most", Math.max(20, fields), 20);
    }

    private static void fewParameters(Class<?> part) {
        List<Executable> all = new ArrayList<>(List.of(part.getDeclaredMethods()));
        all.addAll(List.of(part.getDeclaredConstructors()));
        for (Executable one : all) {
            check.due(one + ": seven parameters at most", Math.max(7, one.getParameterCount()), 7);
        }
    }
}
