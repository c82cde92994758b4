import java.io.IOException;
import java.lang.reflect.Array;
import java.lang.reflect.Executable;
import java.lang.reflect.Field;
import java.lang.reflect.Method;
import java.lang.reflect.Modifier;
import java.nio.charset.StandardCharsets;
import java.nio.file.Files;
import java.nio.file.Path;
import java.util.ArrayDeque;
import java.util.ArrayList;
import java.util.Collections;
import java.util.Deque;
import java.util.IdentityHashMap;
import java.util.List;
import java.util.Set;
import java.util.TreeSet;
import java.util.regex.Matcher;
import java.util.regex.Pattern;

/** The face is the document's, word for word; the source keeps to the rules of LANGUAGE.md that can be seen in it. */
public final class FaceTest {
    private static final Path DOCUMENT = Path.of("../shared/DOC.md");
    private static final Set<String> THROWN = Set.of("IllegalStateException", "IllegalArgumentException",
            "IndexOutOfBoundsException", "ArithmeticException", "UnsupportedOperationException", "NoSuchElementException",
            "RuntimeException");
    private static final Set<String> LIBRARY = Set.of("Arrays.fill", "System.arraycopy", "Integer.bitCount", "Math.min",
            "Math.max");
    // A run of 512 calls that all make an object must still fit into the room of LANGUAGE.md.
    private static final int MOST_OBJECTS = 600_000 / 512;
    private static final int MOST_FIELDS = 7_300_000 / 512;

    public static void main(String[] args) throws IOException {
        face();
        members();
        source(Files.readString(Path.of(args[0]), StandardCharsets.ISO_8859_1));
        room();
        Check.end();
    }

    private static void face() throws IOException {
        Check.part("the face");
        Set<String> want = new TreeSet<>();
        String document = Files.readString(DOCUMENT);
        int from = document.indexOf("```java");
        for (String line : document.substring(from, document.indexOf("```", from + 3)).split("\n")) {
            if (line.startsWith("    public ") && line.contains("(") && !line.contains("BrigadePagers(")) {
                want.add(line.trim());
            }
        }
        Set<String> got = new TreeSet<>();
        for (Method method : BrigadePagers.class.getDeclaredMethods()) {
            if (!Modifier.isPrivate(method.getModifiers()) && !method.isSynthetic()) {
                got.add(said(method));
            }
        }
        Check.due("methods of the document", want.size() > 50, true);
        Check.due("the methods", got, namesDropped(want));
        Check.due("NONE", BrigadePagers.NONE, -1);
    }

    private static String said(Method method) {
        StringBuilder line = new StringBuilder(Modifier.toString(method.getModifiers()));
        line.append(' ').append(method.getReturnType().getSimpleName()).append(' ').append(method.getName()).append('(');
        line.append(joined(method.getParameterTypes())).append(')');
        if (method.getExceptionTypes().length > 0) {
            line.append(" throws ").append(joined(method.getExceptionTypes()));
        }
        return line.append(';').toString();
    }

    private static String joined(Class<?>[] types) {
        List<String> names = new ArrayList<>();
        for (Class<?> type : types) {
            names.add(type.getSimpleName());
        }
        return String.join(", ", names);
    }

    private static Set<String> namesDropped(Set<String> lines) {
        Set<String> dropped = new TreeSet<>();
        for (String line : lines) {
            dropped.add(line.replaceAll("(int|boolean) \\w+([,)])", "$1$2"));
        }
        return dropped;
    }

    private static void members() {
        Check.part("rules 1, 5 and 11");
        Check.due("public and final", Modifier.toString(BrigadePagers.class.getModifiers()), "public final");
        Set<String> names = new TreeSet<>();
        for (Method method : BrigadePagers.class.getMethods()) {
            names.add(method.getName());
        }
        List<Class<?>> classes = new ArrayList<>(List.of(BrigadePagers.class.getDeclaredClasses()));
        classes.add(BrigadePagers.class);
        Check.due("no more than twelve classes", classes.size() <= 12, true);
        for (Class<?> one : classes) {
            int fields = 0;
            for (Field field : one.getDeclaredFields()) {
                boolean isStatic = Modifier.isStatic(field.getModifiers());
                fields += isStatic ? 0 : 1;
                Check.due(field + " is private or NONE", Modifier.isPrivate(field.getModifiers())
                        || field.getName().equals("NONE"), true);
                Check.due(field + " is final if it is static", !isStatic || Modifier.isFinal(field.getModifiers()), true);
            }
            Check.due("no more than twenty fields in " + one, fields <= 20, true);
            for (Method method : one.getDeclaredMethods()) {
                boolean isPrivate = Modifier.isPrivate(method.getModifiers());
                Check.due(method + " is private or of the face", isPrivate || one == BrigadePagers.class, true);
                Check.due(method + " has a name of its own", isPrivate && names.contains(method.getName()), false);
                Check.due(method + " has seven parameters at most", ((Executable) method).getParameterCount() <= 7, true);
            }
        }
    }

    private static void source(String whole) {
        Check.part("rules 4, 6, 9 and 10");
        String code = whole.replaceAll("(?s)/\\*.*?\\*/", "").replaceAll("//[^\n]*", "");
        String bare = code.replaceAll("\"[^\"]*\"", "\"\"");
        for (String word : List.of("->", "::", "try", "catch", "finally", "assert", "synchronized", "native", "package",
                "instanceof", "static {", "double", "float", "Object", "String.", "hashCode", "toString", "this)", "length()]")) {
            Check.due(word + " in the source", Pattern.compile(word.matches("\\w+") ? "\\b" + word + "\\b"
                    : Pattern.quote(word)).matcher(bare).find(), false);
        }
        for (Matcher found = Pattern.compile("import ([^;]*);").matcher(bare); found.find();) {
            Check.due(found.group() + " is listed",
                    Set.of("java.util.Arrays", "java.util.NoSuchElementException").contains(found.group(1)), true);
        }
        for (Matcher found = Pattern.compile("\\b[A-Z][a-z]\\w*\\.[a-zA-Z_]\\w*").matcher(bare); found.find();) {
            Check.due(found.group() + " is listed", LIBRARY.contains(found.group()) || found.group().startsWith("java."), true);
        }
        for (Matcher found = Pattern.compile("\\bthrow\\b[^;]*;").matcher(code); found.find();) {
            Matcher form = Pattern.compile("throw new (\\w+)\\(\"[^\"]*\"\\);").matcher(found.group());
            Check.due(found.group() + " has its form", form.matches() && THROWN.contains(form.group(1)), true);
        }
        Check.due("a text joined by +", Pattern.compile("\"\\s*\\+|\\+\\s*\"").matcher(bare).find(), false);
        Check.due("a loop whose end cannot be seen", Pattern.compile("while \\(true\\)|for \\(;").matcher(bare).find(), false);
        methodsAreShort(whole.split("\n"));
        rowsAreMadeInConstructors(bare.split("\n"));
    }

    /** The working page: "make rows in constructors and use them again"; trustPath(), promise 18, made one a call. */
    private static void rowsAreMadeInConstructors(String[] lines) {
        Pattern field = Pattern.compile("^ +private (final )?[\\w\\[\\]]+ \\w+ = new .*;$");
        Pattern constructor = Pattern.compile("^( +)(private|public) [A-Z]\\w*\\(.*\\{$");
        String closing = null;
        for (String line : lines) {
            Matcher found = constructor.matcher(line);
            if (found.matches()) {
                closing = found.group(1) + "}";
            } else if (line.equals(closing)) {
                closing = null;
            }
            if (Pattern.compile("(?<!throw )\\bnew\\b").matcher(line).find()) {
                Check.due(line.trim() + " stands in a field or a constructor", closing != null || field.matcher(line).matches(),
                        true);
            }
        }
    }

    private static void methodsAreShort(String[] lines) {
        Pattern head = Pattern.compile("^( +)(private|public) [^=]*\\).*\\{$");
        for (int at = 0; at < lines.length; at++) {
            Matcher found = head.matcher(lines[at]);
            if (found.matches()) {
                int end = at;
                while (!lines[end].equals(found.group(1) + "}")) {
                    end++;
                }
                Check.due(lines[at].trim() + " has at most sixty lines", end - at < 60, true);
            }
        }
    }

    private static void room() {
        Check.part("the room");
        Set<Object> seen = Collections.newSetFromMap(new IdentityHashMap<>());
        Deque<Object> open = new ArrayDeque<>();
        open.add(new BrigadePagers());
        long fields = 0;
        while (!open.isEmpty()) {
            Object one = open.remove();
            if (seen.add(one)) {
                fields += parts(one, open);
            }
        }
        Check.due(seen.size() + " objects are few enough", seen.size() <= MOST_OBJECTS, true);
        Check.due(fields + " fields and elements are few enough", fields <= MOST_FIELDS, true);
    }

    private static int parts(Object one, Deque<Object> open) {
        if (one.getClass().isArray()) {
            for (int at = 0; at < Array.getLength(one) && one instanceof Object[]; at++) {
                open.add(Array.get(one, at));
            }
            return Array.getLength(one);
        }
        int fields = 0;
        for (Field field : one.getClass().getDeclaredFields()) {
            if (!Modifier.isStatic(field.getModifiers())) {
                fields++;
                field.setAccessible(true);
                try {
                    Object value = field.get(one);
                    if (!field.getType().isPrimitive() && value != null) {
                        open.add(value);
                    }
                } catch (IllegalAccessException hidden) {
                    throw new AssertionError(hidden);
                }
            }
        }
        return fields;
    }
}
