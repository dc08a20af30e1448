import java.io.IOException;
import java.lang.reflect.Constructor;
import java.lang.reflect.Field;
import java.lang.reflect.Method;
import java.lang.reflect.Modifier;
import java.nio.charset.StandardCharsets;
import java.nio.file.Files;
import java.nio.file.Path;
import java.util.Arrays;
import java.util.List;
import java.util.Set;
import java.util.TreeSet;
import java.util.regex.Pattern;
import java.util.stream.Collectors;

/** That the class has the face of the document and no other, and keeps to what LANGUAGE.md leaves. */
public final class FaceTest {
    private static final List<String> FACE = List.of(
            "int wire(int, int, int, int) throws IndexOutOfBoundsException, IllegalArgumentException",
            "int size(int, int) throws IndexOutOfBoundsException, IllegalArgumentException",
            "int turn(int, int) throws IndexOutOfBoundsException, IllegalArgumentException",
            "int clear(int) throws IndexOutOfBoundsException",
            "int ink(int, int, int, int, int) throws IndexOutOfBoundsException, IllegalArgumentException",
            "int figure(int, int, int, int, int) throws IndexOutOfBoundsException, IllegalArgumentException",
            "int drop(int) throws IndexOutOfBoundsException",
            "int set(int, int) throws IndexOutOfBoundsException, IllegalArgumentException",
            "int append(int) throws IllegalArgumentException, IllegalStateException",
            "int clearBuffer()",
            "int firstError()",
            "int bend() throws IllegalArgumentException",
            "int undo() throws IllegalStateException",
            "int roll(int, int) throws IndexOutOfBoundsException, IllegalArgumentException",
            "int cell(int, int, int, int) throws IndexOutOfBoundsException, IllegalArgumentException",
            "int figureOf(int, int) throws IndexOutOfBoundsException, IllegalArgumentException",
            "int contrast(int, int) throws IndexOutOfBoundsException",
            "int count(int) throws IllegalArgumentException",
            "int setting(int) throws IndexOutOfBoundsException",
            "int bestPhase(int, int) throws IndexOutOfBoundsException",
            "int bestPitch()",
            "int standsOut(int, int, int) throws IllegalArgumentException",
            "double goodness()",
            "long digest()");

    /** Words that the part of Java that LANGUAGE.md leaves never needs. */
    private static final List<String> RULED_OUT = List.of("package", "finally", "synchronized", "assert", "native",
            "volatile", "transient", "System.out", "System.err", "System.in", "Thread", "nanoTime",
            "currentTimeMillis", "addExact", "multiplyExact", "printStackTrace", "getMessage");

    private static String names(Class<?>[] types) {
        return Arrays.stream(types).map(Class::getSimpleName).collect(Collectors.joining(", "));
    }

    private static String told(Method method) {
        String thrown = names(method.getExceptionTypes());
        return method.getReturnType().getSimpleName() + " " + method.getName()
                + "(" + names(method.getParameterTypes()) + ")" + (thrown.isEmpty() ? "" : " throws " + thrown);
    }

    private static void methods(Check check) {
        Set<String> own = new TreeSet<>();
        Set<String> publicNames = new TreeSet<>();
        for (Method method : NoteWatermarks.class.getDeclaredMethods()) {
            if (!Modifier.isPrivate(method.getModifiers()) && !method.isSynthetic()) {
                own.add(told(method));
                publicNames.add(method.getName());
                check.dueThat(method + " is public", Modifier.isPublic(method.getModifiers()));
            }
        }
        check.due("methods", new TreeSet<>(FACE), own.toString());
        for (Method method : NoteWatermarks.class.getDeclaredMethods()) {
            boolean isPrivate = Modifier.isPrivate(method.getModifiers());
            check.dueThat(method + " has a name of its own", !isPrivate || !publicNames.contains(method.getName()));
        }
        for (Class<?> inside : NoteWatermarks.class.getDeclaredClasses()) {
            check.dueThat(inside + " is not public", !Modifier.isPublic(inside.getModifiers()));
        }
    }

    private static void parameters(Check check, Class<?> where) {
        for (Method method : where.getDeclaredMethods()) {
            check.dueThat(method + " takes at most seven parameters", method.getParameterCount() <= 7);
        }
        for (Class<?> inside : where.getDeclaredClasses()) {
            parameters(check, inside);
        }
    }

    private static void fields(Check check) {
        for (Field field : NoteWatermarks.class.getDeclaredFields()) {
            int modifiers = field.getModifiers();
            check.dueThat(field + " is private or NONE",
                    Modifier.isPrivate(modifiers) || field.isSynthetic() || field.getName().equals("NONE"));
            check.dueThat(field + " is final, if static", !Modifier.isStatic(modifiers) || Modifier.isFinal(modifiers));
        }
        check.due("NONE", -1, () -> NoteWatermarks.NONE);
    }

    private static void constructors(Check check) {
        int open = 0;
        for (Constructor<?> constructor : NoteWatermarks.class.getDeclaredConstructors()) {
            boolean isPublic = Modifier.isPublic(constructor.getModifiers());
            check.dueThat(constructor + " is public or private",
                    isPublic || Modifier.isPrivate(constructor.getModifiers()) || constructor.isSynthetic());
            check.dueThat(constructor + " takes nothing", !isPublic || constructor.getParameterCount() == 0);
            open += isPublic ? 1 : 0;
        }
        check.due("public constructors", 1, String.valueOf(open));
    }

    /** Comments and written texts may say what they like. */
    private static void source(Check check, Path path) throws IOException {
        String code = Files.readString(path, StandardCharsets.UTF_8)
                .replaceAll("(?s)/\\*.*?\\*/", " ").replaceAll("\"[^\"\n]*\"", " ").replaceAll("//[^\n]*", " ");
        for (String word : RULED_OUT) {
            boolean isThere = Pattern.compile("\\b" + Pattern.quote(word) + "\\b").matcher(code).find();
            check.dueThat("no '" + word + "' in the source", !isThere);
        }
        check.dueThat("the source is read", code.contains("class NoteWatermarks"));
    }

    public static void main(String[] args) throws IOException {
        Check check = new Check();
        int kind = Modifier.PUBLIC | Modifier.FINAL;
        check.due("class", kind, () -> NoteWatermarks.class.getModifiers() & (kind | Modifier.ABSTRACT));
        constructors(check);
        methods(check);
        parameters(check, NoteWatermarks.class);
        fields(check);
        source(check, Path.of(args.length > 0 ? args[0] : "src/main/java/NoteWatermarks.java"));
        check.end();
    }
}
