import java.io.IOException;
import java.lang.reflect.Field;
import java.lang.reflect.Method;
import java.lang.reflect.Modifier;
import java.nio.file.Files;
import java.nio.file.Path;
import java.util.Arrays;
import java.util.Set;
import java.util.stream.Collectors;

/** The rules of LANGUAGE.md that can be looked at from outside; run from the project's folder. */
final class LanguageTest {
    private static final Checks CHECKS = new Checks();
    private static final Path SOURCE = Path.of("src/main/java/MilkTrain.java");

    public static void main(String[] args) throws IOException {
        forbiddenWords();
        theFace();
        noNameTwice();
        fieldsAndClasses();
        CHECKS.end();
    }

    private static void forbiddenWords() throws IOException {
        String code = Files.readString(SOURCE).replaceAll("(?s)/\\*.*?\\*/|//[^\n]*", " ");
        String[] forbidden = {"throw", "throws", "try", "catch", "finally", "synchronized", "assert", "import", "package",
            "native", "volatile", "protected", "\\w*Exact", "System\\.(?!arraycopy)\\w+", "Object", "hashCode", "toString"};
        for (String word : forbidden) {
            CHECKS.due("source has " + word, code.matches("(?s).*\\b" + word + "\\b.*"), false);
        }
        CHECKS.due("source has a lambda", code.contains("->"), false);
        CHECKS.due("source has a method reference", code.contains("::"), false);
    }

    private static void theFace() {
        for (Method method : MilkTrain.class.getDeclaredMethods()) {
            boolean seen = Modifier.isPublic(method.getModifiers()) || Modifier.isPrivate(method.getModifiers());
            CHECKS.due("public or private: " + method, seen, true);
        }
        for (Field field : MilkTrain.class.getDeclaredFields()) {
            boolean none = field.getName().equals("NONE");
            CHECKS.due("only NONE is public: " + field, Modifier.isPublic(field.getModifiers()), none);
            CHECKS.due("only NONE is not private: " + field, Modifier.isPrivate(field.getModifiers()), !none);
        }
        CHECKS.due("constructors", MilkTrain.class.getConstructors().length, 1);
        CHECKS.due("NONE", MilkTrain.NONE, -1);
        CHECKS.due("final", Modifier.isFinal(MilkTrain.class.getModifiers()), true);
    }

    private static void noNameTwice() {
        Set<String> face = Arrays.stream(MilkTrain.class.getDeclaredMethods())
            .filter(m -> Modifier.isPublic(m.getModifiers())).map(Method::getName).collect(Collectors.toSet());
        for (Method method : MilkTrain.class.getDeclaredMethods()) {
            boolean borrowed = !Modifier.isPublic(method.getModifiers()) && face.contains(method.getName());
            CHECKS.due("a name of the face: " + method, borrowed, false);
        }
        for (Class<?> inside : MilkTrain.class.getDeclaredClasses()) {
            for (Method method : inside.getDeclaredMethods()) {
                CHECKS.due("a name of the face: " + method, face.contains(method.getName()), false);
            }
        }
    }

    private static void fieldsAndClasses() {
        CHECKS.due("at most 12 classes", MilkTrain.class.getDeclaredClasses().length + 1 <= 12, true);
        for (Class<?> inside : MilkTrain.class.getDeclaredClasses()) {
            CHECKS.due("static: " + inside, Modifier.isStatic(inside.getModifiers()), true);
            fields(inside);
        }
        fields(MilkTrain.class);
    }

    private static void fields(Class<?> owner) {
        long own = Arrays.stream(owner.getDeclaredFields()).filter(f -> !Modifier.isStatic(f.getModifiers())).count();
        CHECKS.due("at most 20 fields: " + owner, own <= 20, true);
        for (Field field : owner.getDeclaredFields()) {
            boolean changes = Modifier.isStatic(field.getModifiers()) && !Modifier.isFinal(field.getModifiers());
            CHECKS.due("static and not final: " + field, changes, false);
        }
    }
}
