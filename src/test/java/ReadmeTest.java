import java.io.IOException;
import java.lang.reflect.Method;
import java.lang.reflect.Modifier;
import java.nio.file.Files;
import java.nio.file.Path;
import java.util.ArrayList;
import java.util.List;
import java.util.regex.Matcher;
import java.util.regex.Pattern;
import javax.tools.ToolProvider;

/** README.md: its example is compiled and answers what stands beside it; every call is told of. */
public final class ReadmeTest {
    private static final Due due = new Due("ReadmeTest");

    public static void main(String[] args) throws IOException, ReflectiveOperationException {
        String readme = Files.readString(Path.of("README.md"));
        example(readme);
        calls(readme);
        constants(readme);
        tests(readme);
        due.end();
    }

    private static void example(String readme) throws IOException, ReflectiveOperationException {
        Matcher block = Pattern.compile("(?s)```java\n(.*?)```").matcher(readme);
        due.is("there is an example", block.find() ? 1 : 0, 1);
        String example = block.group(1);
        List<String> names = new ArrayList<>();
        List<Long> wants = new ArrayList<>();
        Matcher told = Pattern.compile("int (\\w+) = x\\.[^\n]*; *// (-?\\d+):").matcher(example);
        while (told.find()) {
            names.add(told.group(1));
            wants.add(Long.parseLong(told.group(2)));
        }
        due.is("each answer in it has its number", names.size(), example.split("= x\\.").length - 1);
        long[] answers = answers(example, names);
        for (int k = 0; k < names.size(); k++) {
            due.is("the example's " + names.get(k), answers[k], wants.get(k));
        }
    }

    private static long[] answers(String example, List<String> names) throws IOException, ReflectiveOperationException {
        Path folder = Files.createTempDirectory("readme");
        Path file = folder.resolve("Example.java");
        Files.writeString(file, "public final class Example implements java.util.function.Supplier<long[]> {\n"
            + "public long[] get() {\n" + example + "return new long[] {" + String.join(", ", names) + "};\n}\n}\n");
        int failed = ToolProvider.getSystemJavaCompiler().run(null, null, null, "-cp",
            System.getProperty("java.class.path"), "-d", folder.toString(), file.toString());
        due.is("the example compiles", failed, 0);
        try (java.net.URLClassLoader loader = new java.net.URLClassLoader(new java.net.URL[] {folder.toUri().toURL()})) {
            Object made = loader.loadClass("Example").getConstructor().newInstance();
            return (long[]) ((java.util.function.Supplier<?>) made).get();
        } finally {
            Files.delete(folder.resolve("Example.class"));
            Files.delete(file);
            Files.delete(folder);
        }
    }

    /** Each call stands in a table, with as many numbers as it takes. */
    private static void calls(String readme) {
        for (Method call : AteLeast.class.getDeclaredMethods()) {
            if (Modifier.isPublic(call.getModifiers())) {
                Matcher row = Pattern.compile("\n\\| `" + call.getName() + "\\(([^)]*)\\)` \\|").matcher(readme);
                boolean found = row.find();
                due.is(call.getName() + " is told of", found ? 1 : 0, 1);
                int takes = !found || row.group(1).isEmpty() ? 0 : row.group(1).split(", ").length;
                due.is(call.getName() + " takes", takes, call.getParameterCount());
            }
        }
    }

    private static void constants(String readme) {
        due.is("NONE", readme.contains("`NONE` (" + AteLeast.NONE + ")") ? 1 : 0, 1);
        due.is("BAD", readme.contains("`BAD` (" + AteLeast.BAD + ")") ? 1 : 0, 1);
        due.is("STATE", readme.contains("`STATE` (" + AteLeast.STATE + ")") ? 1 : 0, 1);
        due.is("FULL", readme.contains("`FULL` (" + AteLeast.FULL + ")") ? 1 : 0, 1);
        due.is("NO", readme.contains("`NO` (`Long.MIN_VALUE`)") && AteLeast.NO == Long.MIN_VALUE ? 1 : 0, 1);
    }

    private static void tests(String readme) throws IOException {
        try (var files = Files.list(Path.of("src/test/java"))) {
            for (Path file : (Iterable<Path>) files::iterator) {
                String name = file.getFileName().toString().replace(".java", "");
                if (name.endsWith("Test")) {
                    due.is(name + " is told of", readme.contains("`" + name + "`") ? 1 : 0, 1);
                }
            }
        }
    }
}
