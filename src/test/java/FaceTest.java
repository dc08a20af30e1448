import java.io.IOException;
import java.lang.reflect.Constructor;
import java.lang.reflect.Field;
import java.lang.reflect.Method;
import java.lang.reflect.Modifier;
import java.nio.charset.StandardCharsets;
import java.nio.file.Files;
import java.nio.file.Path;
import java.util.Arrays;
import java.util.List;
import java.util.Set;
import java.util.TreeSet;
import java.util.stream.Collectors;

/** That the class has the face of the document and no other, and keeps to what LANGUAGE.md leaves. */
public final class FaceTest {
    private static final List<String> FACE = List.of(
            "int wire(int, int, int, int) throws IndexOutOfBoundsException, IllegalArgumentException",
            "int size(int, int) throws IndexOutOfBoundsException, IllegalArgumentException",
            "int turn(int, int) throws IndexOutOfBoundsException, IllegalArgumentException",
            "int clear(int) throws IndexOutOfBoundsException",
            "int ink(int, int, int, int, int) throws IndexOutOfBoundsException, IllegalArgumentException",
            "int figure(int, int, int, int, int) throws IndexOutOfBoundsException, IllegalArgumentException",
            "int drop(int) throws IndexOutOfBoundsException",
            "int set(int, int) throws IndexOutOfBoundsException, IllegalArgumentException",
            "int append(int) throws IllegalArgumentException, IllegalStateException",
            "int clearBuffer()",
            "int firstError()",
            "int bend() throws IllegalArgumentException",
            "int undo() throws IllegalStateException",
            "int roll(int, int) throws IndexOutOfBoundsException, IllegalArgumentException",
            "int cell(int, int, int, int) throws IndexOutOfBoundsException, IllegalArgumentException",
            "int figureOf(int, int) throws IndexOutOfBoundsException, IllegalArgumentException",
            "int contrast(int, int) throws IndexOutOfBoundsException",
            "int count(int) throws IllegalArgumentException",
            "int setting(int) throws IndexOutOfBoundsException",
            "int bestPhase(int, int) throws IndexOutOfBoundsException",
            "int bestPitch()",
            "int standsOut(int, int, int) throws IllegalArgumentException",
            "double goodness()",
            "long digest()");

    /** Words that the part of Java that LANGUAGE.md leaves has no use for here. */
    private static final List<String> RULED_OUT = List.of("import ", "package ", "->", "::", "try ", "catch",
            "finally", "synchronized", "assert ", "Exact(", "Double.", "Math.sqrt", "System.out", "System.err",
            "currentTimeMillis", "nanoTime", "Random", "Thread", "printStackTrace", " native ", " volatile ");

    private static String names(Class<?>[] types) {
        return Arrays.stream(types).map(Class::getSimpleName).collect(Collectors.joining(", "));
    }

    private static String told(Method method) {
        String thrown = names(method.getExceptionTypes());
        return method.getReturnType().getSimpleName() + " " + method.getName()
                + "(" + names(method.getParameterTypes()) + ")" + (thrown.isEmpty() ? "" : " throws " + thrown);
    }

    private static void methods(Check check) {
        Set<String> own = new TreeSet<>();
        Set<String> publicNames = new TreeSet<>();
        for (Method method : NoteWatermarks.class.getDeclaredMethods()) {
            if (!Modifier.isPrivate(method.getModifiers())) {
                own.add(told(method));
                publicNames.add(method.getName());
                check.dueThat(method + " is public", method.getModifiers() == Modifier.PUBLIC);
            }
        }
        check.due("methods", new TreeSet<>(FACE), own.toString());
        noPrivateNamesake(check, NoteWatermarks.class, publicNames);
        for (Class<?> inside : NoteWatermarks.class.getDeclaredClasses()) {
            noPrivateNamesake(check, inside, publicNames);
            check.dueThat(inside + " is static", Modifier.isStatic(inside.getModifiers()));
            check.dueThat(inside + " is not public", !Modifier.isPublic(inside.getModifiers()));
        }
    }

    private static void noPrivateNamesake(Check check, Class<?> where, Set<String> publicNames) {
        for (Method method : where.getDeclaredMethods()) {
            boolean isPrivate = Modifier.isPrivate(method.getModifiers());
            check.dueThat(method + " has a name of its own", !isPrivate || !publicNames.contains(method.getName()));
            check.dueThat(method + " takes at most seven parameters", method.getParameterCount() <= 7);
        }
    }

    private static void fields(Check check) {
        for (Field field : NoteWatermarks.class.getDeclaredFields()) {
            int modifiers = field.getModifiers();
            check.dueThat(field + " is private or NONE",
                    Modifier.isPrivate(modifiers) || field.getName().equals("NONE"));
            check.dueThat(field + " is final", Modifier.isFinal(modifiers));
        }
        check.due("NONE", -1, () -> NoteWatermarks.NONE);
    }

    private static void source(Check check, Path path) throws IOException {
        String source = Files.readString(path, StandardCharsets.US_ASCII);
        for (String word : RULED_OUT) {
            check.dueThat("no '" + word.trim() + "' in the source", !source.contains(word));
        }
    }

    public static void main(String[] args) throws IOException {
        Check check = new Check();
        check.due("class", Modifier.PUBLIC | Modifier.FINAL, () -> NoteWatermarks.class.getModifiers());
        Constructor<?>[] constructors = NoteWatermarks.class.getDeclaredConstructors();
        check.due("constructors", "[public NoteWatermarks()]", Arrays.toString(constructors));
        methods(check);
        fields(check);
        source(check, Path.of(args[0]));
        check.end();
    }
}
