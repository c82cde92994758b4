import java.io.IOException;
import java.io.PrintWriter;
import java.io.StringWriter;
import java.lang.reflect.Method;
import java.lang.reflect.Modifier;
import java.net.URL;
import java.net.URLClassLoader;
import java.nio.file.Files;
import java.nio.file.Path;
import java.util.ArrayList;
import java.util.List;
import java.util.regex.Matcher;
import java.util.regex.Pattern;
import java.util.spi.ToolProvider;

/** README.md names every method, and its code compiles and answers what the comments beside it say. */
public final class ReadmeTest {
    /** A statement with a value or an exception beside it: what is declared, the call, and what is due. */
    private static final Pattern TOLD = Pattern.compile("((?:int|boolean) \\w+ = )?(x\\.\\w+\\(.*\\));\\s*"
            + "// (?:throws (\\w+)|(-?\\d+|true|false)\\b).*");

    public static void main(String[] args) throws Exception {
        String readme = Files.readString(Path.of("README.md"));
        everyMethodIsNamed(readme);
        run(source(readme));
        Check.end();
    }

    private static void everyMethodIsNamed(String readme) {
        Check.part("the methods in README.md");
        for (Method method : BrigadePagers.class.getDeclaredMethods()) {
            if (Modifier.isPublic(method.getModifiers())) {
                String name = "(`|x\\.)" + method.getName() + "[`(]";
                Check.due(method.getName() + " is named", Pattern.compile(name).matcher(readme).find(), true);
            }
        }
    }

    private static String source(String readme) {
        StringBuilder members = new StringBuilder();
        StringBuilder statements = new StringBuilder();
        Matcher block = Pattern.compile("(?s)```java\n(.*?)```").matcher(readme);
        while (block.find()) {
            if (block.group(1).startsWith("static ")) {
                members.append(block.group(1));
            } else {
                block.group(1).lines().forEach(line -> statements.append(checked(line)).append('\n'));
            }
        }
        Check.part("the code in README.md");
        Check.due("that there is some", statements.length() > 0 && members.length() > 0, true);
        return "public final class ReadmeCode {\n" + members + "public static void run() {\nCheck.part(\"README.md\");\n"
                + statements + "Check.end();\n}\n}\n";
    }

    private static String checked(String line) {
        Matcher told = TOLD.matcher(line);
        if (!told.matches()) {
            return line;
        }
        String what = '"' + line.replace("\\", "\\\\").replace("\"", "\\\"") + "\", ";
        if (told.group(3) != null) {
            return "Check.refused(" + what + (told.group(3).equals("NoSuchElementException") ? "java.util." : "")
                    + told.group(3) + ".class, () -> " + told.group(2) + ");";
        }
        if (told.group(1) == null) {
            return "Check.due(" + what + told.group(2) + ", " + told.group(4) + ");";
        }
        String name = told.group(1).split(" ")[1];
        return told.group(1) + told.group(2) + "; Check.due(" + what + name + ", " + told.group(4) + ");";
    }

    private static void run(String source) throws Exception {
        Path directory = Files.createTempDirectory("readme");
        Path file = directory.resolve("ReadmeCode.java");
        try {
            Files.writeString(file, source);
            StringWriter errors = new StringWriter();
            int code = ToolProvider.findFirst("javac").orElseThrow().run(new PrintWriter(errors), new PrintWriter(errors),
                    "-cp", System.getProperty("java.class.path"), "-d", directory.toString(), file.toString());
            Check.due("the compiler, which says " + errors, code, 0);
            if (code == 0) {
                runCompiled(directory);
            }
        } finally {
            Files.deleteIfExists(directory.resolve("ReadmeCode.class"));
            Files.deleteIfExists(file);
            Files.deleteIfExists(directory);
        }
    }

    /** Every class is loaded again beside the compiled one, or it could not see those that are not public. */
    private static void runCompiled(Path directory) throws IOException, ReflectiveOperationException {
        List<URL> places = new ArrayList<>();
        places.add(directory.toUri().toURL());
        for (String place : System.getProperty("java.class.path").split(java.io.File.pathSeparator)) {
            places.add(Path.of(place).toUri().toURL());
        }
        try (URLClassLoader loader = new URLClassLoader(places.toArray(new URL[0]), ClassLoader.getPlatformClassLoader())) {
            loader.loadClass("ReadmeCode").getMethod("run").invoke(null);
        }
    }
}
