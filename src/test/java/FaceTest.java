import java.lang.reflect.Constructor;
import java.lang.reflect.Field;
import java.lang.reflect.Method;
import java.lang.reflect.Modifier;
import java.util.Arrays;
import java.util.TreeSet;

/** The public face is that of the document, and nothing else of the class is visible. */
public final class FaceTest {
    private static final String[] FACE = {
        "public PostRates()",
        "public int PostRates.count(int)",
        "public int PostRates.day(int)",
        "public int PostRates.first()",
        "public int PostRates.item(int,int,int)",
        "public int PostRates.lose(int)",
        "public int PostRates.post(int,int)",
        "public int PostRates.scan(int,int)",
        "public int PostRates.scanned()",
        "public int PostRates.tariff(int,int)",
        "public int PostRates.told(int,int)",
        "public int PostRates.trace(int)",
        "public long PostRates.ask(int,int,int)",
        "public long PostRates.till()",
        "public static final int PostRates.BAD",
        "public static final int PostRates.CAST",
        "public static final int PostRates.FULL",
        "public static final int PostRates.STATE",
    };

    public static void main(String[] args) {
        TreeSet<String> seen = new TreeSet<>();
        for (Constructor<?> made : PostRates.class.getDeclaredConstructors()) {
            addVisible(seen, made.getModifiers(), made.toString());
        }
        for (Method method : PostRates.class.getDeclaredMethods()) {
            addVisible(seen, method.getModifiers(), method.toString());
        }
        for (Field field : PostRates.class.getDeclaredFields()) {
            addVisible(seen, field.getModifiers(), field.toString());
        }
        Check check = new Check();
        TreeSet<String> face = new TreeSet<>(Arrays.asList(FACE));
        if (!seen.equals(face)) {
            System.out.println("visible are " + seen + ", due are " + face);
        }
        check.due("the face", seen.equals(face) ? 1 : 0, 1);
        check.due("public and final", PostRates.class.getModifiers(), Modifier.PUBLIC | Modifier.FINAL);
        check.due("BAD", PostRates.BAD, -1);
        check.due("FULL", PostRates.FULL, -2);
        check.due("STATE", PostRates.STATE, -3);
        check.due("CAST", PostRates.CAST, -4);
        check.end();
    }

    private static void addVisible(TreeSet<String> seen, int modifiers, String text) {
        if (!Modifier.isPrivate(modifiers)) {
            seen.add(text);
        }
    }
}
