import java.io.IOException;
import java.lang.reflect.Constructor;
import java.lang.reflect.Field;
import java.lang.reflect.Method;
import java.lang.reflect.Modifier;
import java.nio.charset.StandardCharsets;
import java.nio.file.Files;
import java.nio.file.Path;
import java.util.ArrayList;
import java.util.Arrays;
import java.util.List;
import java.util.Set;
import java.util.TreeSet;
import java.util.regex.Matcher;
import java.util.regex.Pattern;
import java.util.stream.Collectors;

/** That the class has the face of the document and no other, and keeps to what LANGUAGE.md leaves. */
public final class FaceTest {
    private static final List<String> FACE = List.of(
            "int wire(int, int, int, int) throws IndexOutOfBoundsException, IllegalArgumentException",
            "int size(int, int) throws IndexOutOfBoundsException, IllegalArgumentException",
            "int turn(int, int) throws IndexOutOfBoundsException, IllegalArgumentException",
            "int clear(int) throws IndexOutOfBoundsException",
            "int ink(int, int, int, int, int) throws IndexOutOfBoundsException, IllegalArgumentException",
            "int figure(int, int, int, int, int) throws IndexOutOfBoundsException, IllegalArgumentException",
            "int drop(int) throws IndexOutOfBoundsException",
            "int set(int, int) throws IndexOutOfBoundsException, IllegalArgumentException",
            "int append(int) throws IllegalArgumentException, IllegalStateException",
            "int clearBuffer()",
            "int firstError()",
            "int bend() throws IllegalArgumentException",
            "int undo() throws IllegalStateException",
            "int roll(int, int) throws IndexOutOfBoundsException, IllegalArgumentException",
            "int cell(int, int, int, int) throws IndexOutOfBoundsException, IllegalArgumentException",
            "int figureOf(int, int) throws IndexOutOfBoundsException, IllegalArgumentException",
            "int contrast(int, int) throws IndexOutOfBoundsException",
            "int count(int) throws IllegalArgumentException",
            "int setting(int) throws IndexOutOfBoundsException",
            "int bestPhase(int, int) throws IndexOutOfBoundsException",
            "int bestPitch()",
            "int standsOut(int, int, int) throws IllegalArgumentException",
            "double goodness()",
            "long digest()");

    /** Words that the part of Java that LANGUAGE.md leaves never needs. */
    private static final List<String> RULED_OUT = List.of("package", "finally", "synchronized", "assert", "native",
            "volatile", "transient", "System.out", "System.err", "System.in", "Thread", "nanoTime",
            "currentTimeMillis", "addExact", "multiplyExact", "printStackTrace", "getMessage", "protected",
            "hashCode");

    /** A static function of a class with a capital; rule 4 leaves these of the library. */
    private static final Pattern STATIC_CALL = Pattern.compile("\\b([A-Z]\\w*\\.\\w+)\\(");
    private static final Pattern LIBRARY_LEFT = Pattern.compile(
            "System\\.arraycopy|(Math|Integer|Long)\\.\\w+(?<!Exact)|Arrays\\.(copyOf|copyOfRange|fill)|List\\.of");

    /** Rule 6 leaves these to be thrown. */
    private static final Set<String> THROWN = Set.of("IllegalStateException", "IllegalArgumentException",
            "IndexOutOfBoundsException", "ArithmeticException", "UnsupportedOperationException",
            "NoSuchElementException", "RuntimeException");

    private static final int MOST_CLASSES = 12;
    private static final int MOST_FIELDS = 20;
    private static final int MOST_LINES = 60;

    private static String names(Class<?>[] types) {
        return Arrays.stream(types).map(Class::getSimpleName).collect(Collectors.joining(", "));
    }

    private static String told(Method method) {
        String thrown = names(method.getExceptionTypes());
        return method.getReturnType().getSimpleName() + " " + method.getName()
                + "(" + names(method.getParameterTypes()) + ")" + (thrown.isEmpty() ? "" : " throws " + thrown);
    }

    private static void methods(Check check) {
        Set<String> own = new TreeSet<>();
        Set<String> publicNames = new TreeSet<>();
        for (Method method : NoteWatermarks.class.getDeclaredMethods()) {
            if (!Modifier.isPrivate(method.getModifiers()) && !method.isSynthetic()) {
                own.add(told(method));
                publicNames.add(method.getName());
                check.dueThat(method + " is public", Modifier.isPublic(method.getModifiers()));
            }
        }
        check.due("methods", new TreeSet<>(FACE), own.toString());
        for (Method method : NoteWatermarks.class.getDeclaredMethods()) {
            boolean isPrivate = Modifier.isPrivate(method.getModifiers());
            check.dueThat(method + " has a name of its own", !isPrivate || !publicNames.contains(method.getName()));
        }
        for (Class<?> inside : NoteWatermarks.class.getDeclaredClasses()) {
            check.dueThat(inside + " is not public", !Modifier.isPublic(inside.getModifiers()));
        }
    }

    /** The class, and those inside it. */
    private static List<Class<?>> classes() {
        List<Class<?>> classes = new ArrayList<>(List.of(NoteWatermarks.class));
        classes.addAll(List.of(NoteWatermarks.class.getDeclaredClasses()));
        return classes;
    }

    /** LANGUAGE.md, rules 2, 5 and 11. */
    private static void shapes(Check check) {
        check.dueThat("at most " + MOST_CLASSES + " classes", classes().size() <= MOST_CLASSES);
        for (Class<?> where : classes()) {
            boolean isInside = where != NoteWatermarks.class;
            check.dueThat(where + " is static, if inside", !isInside || Modifier.isStatic(where.getModifiers()));
            for (Method method : where.getDeclaredMethods()) {
                check.dueThat(method + " takes at most seven parameters", method.getParameterCount() <= 7);
            }
            int ownFields = 0;
            for (Field field : where.getDeclaredFields()) {
                boolean isStatic = Modifier.isStatic(field.getModifiers());
                check.dueThat(field + " is final, if static", !isStatic || Modifier.isFinal(field.getModifiers()));
                ownFields += isStatic ? 0 : 1;
            }
            check.dueThat(where + " has at most " + MOST_FIELDS + " fields", ownFields <= MOST_FIELDS);
        }
    }

    private static void fields(Check check) {
        for (Field field : NoteWatermarks.class.getDeclaredFields()) {
            int modifiers = field.getModifiers();
            check.dueThat(field + " is private or NONE",
                    Modifier.isPrivate(modifiers) || field.isSynthetic() || field.getName().equals("NONE"));
        }
        check.due("NONE", -1, () -> NoteWatermarks.NONE);
    }

    private static void constructors(Check check) {
        int open = 0;
        for (Constructor<?> constructor : NoteWatermarks.class.getDeclaredConstructors()) {
            boolean isPublic = Modifier.isPublic(constructor.getModifiers());
            check.dueThat(constructor + " is public or private",
                    isPublic || Modifier.isPrivate(constructor.getModifiers()) || constructor.isSynthetic());
            check.dueThat(constructor + " takes nothing", !isPublic || constructor.getParameterCount() == 0);
            open += isPublic ? 1 : 0;
        }
        check.due("public constructors", 1, String.valueOf(open));
    }

    private static void calls(Check check, String code) {
        Set<String> own = classes().stream().map(Class::getSimpleName).collect(Collectors.toSet());
        Matcher call = STATIC_CALL.matcher(code);
        while (call.find()) {
            String name = call.group(1);
            boolean isOwn = own.contains(name.substring(0, name.indexOf('.')));
            check.dueThat(name + " is left of the library", isOwn || LIBRARY_LEFT.matcher(name).matches());
        }
        Matcher thrown = Pattern.compile("\\bthrow\\b\\s*(new\\s+)?(\\w+)").matcher(code);
        while (thrown.find()) {
            check.dueThat("throw " + thrown.group(2) + " is left", thrown.group(1) != null
                    && THROWN.contains(thrown.group(2)));
        }
    }

    /** A method's lines, from its name to the brace that stands below it. */
    private static void lengths(Check check, String code) {
        String[] lines = code.split("\n");
        int methods = 0;
        for (int first = 0; first < lines.length; first++) {
            Matcher opening = Pattern.compile("^( +)(?!class\\b)[\\w<>\\[\\] ]+\\([^=;]*(\\{|\\)|,)$").matcher(lines[first]);
            if (opening.find() && !lines[first].matches("^ +(if|for|while|switch|\\}).*")) {
                int last = first;
                while (last < lines.length && !lines[last].equals(opening.group(1) + "}")) {
                    last++;
                }
                methods++;
                check.dueThat("at most " + MOST_LINES + " lines: " + lines[first].strip(),
                        last - first + 1 <= MOST_LINES);
            }
        }
        check.dueThat("methods are found: " + methods, methods >= FACE.size());
    }

    /** Comments and written texts may say what they like. */
    private static void source(Check check, Path path) throws IOException {
        String code = Files.readString(path, StandardCharsets.UTF_8)
                .replaceAll("(?s)/\\*.*?\\*/", " ").replaceAll("\"[^\"\n]*\"", " ").replaceAll("//[^\n]*", " ");
        for (String word : RULED_OUT) {
            boolean isThere = Pattern.compile("\\b" + Pattern.quote(word) + "\\b").matcher(code).find();
            check.dueThat("no '" + word + "' in the source", !isThere);
        }
        check.dueThat("no method reference", !code.contains("::"));
        check.dueThat("no static block", !Pattern.compile("\\bstatic\\s*\\{").matcher(code).find());
        check.dueThat("the source is read", code.contains("class NoteWatermarks"));
        calls(check, code);
        lengths(check, code);
    }

    public static void main(String[] args) throws IOException {
        Check check = new Check();
        int kind = Modifier.PUBLIC | Modifier.FINAL;
        check.due("class", kind, () -> NoteWatermarks.class.getModifiers() & (kind | Modifier.ABSTRACT));
        constructors(check);
        methods(check);
        shapes(check);
        fields(check);
        source(check, Path.of(args.length > 0 ? args[0] : "src/main/java/NoteWatermarks.java"));
        check.end();
    }
}
