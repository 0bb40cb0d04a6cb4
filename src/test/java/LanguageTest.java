import java.io.IOException;
import java.lang.reflect.Constructor;
import java.lang.reflect.Field;
import java.lang.reflect.Method;
import java.lang.reflect.Modifier;
import java.nio.file.Files;
import java.nio.file.Path;
import java.util.Arrays;
import java.util.HashSet;
import java.util.List;
import java.util.Map;
import java.util.Random;
import java.util.Set;
import java.util.TreeMap;
import java.util.TreeSet;
import java.util.regex.Matcher;
import java.util.regex.Pattern;

/** The public face, and the rules of LANGUAGE.md as far as the source and the class show them. */
public final class LanguageTest {
    private static final Due due = new Due("LanguageTest");
    private static final String[] FACE = {
        "int eater(int,int,int)", "int of(int,int)", "int hunger(int,int)", "int row(int,int,int)", "int bin(int)",
        "int feed(int)", "int house()", "int told(int)", "int supper()", "int run(int,int)", "int round()",
        "int still(int)", "int allBest(int)", "int laws(int)", "int cook(int,int)", "int thin(int)",
        "int pact(int,int,int)", "int guest(int)", "long odds(int,int)", "long mean(int,int)", "int book(int)",
        "int looked()", "int judge(int,int)", "int image()", "int undo()", "int act(int,int,int)", "int trace(int)",
        "int taken(int,int)", "int count(int)", "int tape(int,int,int)", "int item(int,int,long)",
        "long read(int,int)", "int shift(int,int,int,int,int)",
    };
    /** Words and signs that the rules leave out. */
    private static final String[] LEFT_OUT = {
        "\\bthrow\\b", "\\bthrows\\b", "\\btry\\b", "\\bcatch\\b", "\\bfinally\\b", "\\bsynchronized\\b",
        "\\bassert\\b", "->", "::", "Exact\\b", "\\bpackage\\b", "\\bstatic \\{", "\\bvar\\b", "\\bwhile \\(true\\)",
        "\\bMap\\b", "\\bSet\\b", "\\bRandom\\b", "\\bThread\\b", "\\bfloat\\b", "\\bdouble\\b", "@",
        "System\\.(?!arraycopy\\()", "Arrays\\.(?!fill\\()", "\\?\\?\\?", "\\bequals\\b", "\\btoString\\b",
        "\\b(Integer|Long)\\.(?!MIN_VALUE;)", "Math\\.(?!(min|max|abs)\\()", "\\) \\{ *\\}", "for \\(; *;", "\\bwhile\\b",
        "\\bstrictfp\\b", "\\bnative\\b", "\"\" \\+", "\\+ \"\"", "[=!]= \"\"", "\\bhashCode\\b", "\\[\\]\\[\\]",
        "\\.(?!length\\b|charAt\\(|indexOf\\()[a-z]\\w*\\(\"",
    };

    public static void main(String[] args) throws IOException {
        face();
        classes();
        String source = Files.readString(Path.of("src/main/java/AteLeast.java"));
        source(source);
        lengths(source);
        depths(bare(source));
        room();
        neverThrows();
        due.end();
    }

    private static void right(String what, boolean right) {
        due.is(what, right ? 1 : 0, 1);
    }

    private static String told(Method m) {
        StringBuilder told = new StringBuilder(m.getReturnType() + " " + m.getName() + "(");
        for (Class<?> type : m.getParameterTypes()) {
            told.append(told.charAt(told.length() - 1) == '(' ? "" : ",").append(type);
        }
        return told.append(')').toString();
    }

    private static void face() {
        Set<String> open = new TreeSet<>();
        for (Method m : AteLeast.class.getDeclaredMethods()) {
            if (!Modifier.isPrivate(m.getModifiers())) {
                right("public " + m, Modifier.isPublic(m.getModifiers()) && !Modifier.isStatic(m.getModifiers()));
                open.add(told(m));
            }
        }
        right("methods " + open, open.equals(new TreeSet<>(Arrays.asList(FACE))));
        Set<String> fields = new TreeSet<>();
        for (Field f : AteLeast.class.getDeclaredFields()) {
            if (!Modifier.isPrivate(f.getModifiers())) {
                fields.add(Modifier.toString(f.getModifiers()) + " " + f.getType() + " " + f.getName());
            }
        }
        right("constants " + fields, fields.equals(new TreeSet<>(List.of("public static final int NONE",
            "public static final int BAD", "public static final int STATE", "public static final int FULL",
            "public static final long NO"))));
        Constructor<?>[] makers = AteLeast.class.getDeclaredConstructors();
        right("one constructor", makers.length == 1 && makers[0].getParameterCount() == 0
            && Modifier.isPublic(makers[0].getModifiers()));
        int modifiers = AteLeast.class.getModifiers();
        right("public and final", Modifier.isPublic(modifiers) && Modifier.isFinal(modifiers));
    }

    private static void classes() {
        Set<String> names = new HashSet<>();
        for (String call : FACE) {
            names.add(call.substring(call.indexOf(' ') + 1, call.indexOf('(')));
        }
        Class<?>[] inside = AteLeast.class.getDeclaredClasses();
        right("some twelve classes", inside.length < 12);
        for (Class<?> c : inside) {
            int m = c.getModifiers();
            right(c + " static, not public", Modifier.isStatic(m) && !Modifier.isPublic(m) && !Modifier.isProtected(m));
            members(c, names, false);
        }
        members(AteLeast.class, names, true);
    }

    private static void members(Class<?> c, Set<String> names, boolean face) {
        int fields = 0;
        for (Field f : c.getDeclaredFields()) {
            boolean fixed = Modifier.isStatic(f.getModifiers());
            right(f + " final if static", !fixed || Modifier.isFinal(f.getModifiers()));
            fields += fixed ? 0 : 1;
        }
        right(c + " has some twenty fields", fields <= 20);
        for (Method m : c.getDeclaredMethods()) {
            right(m + " takes at most seven", m.getParameterCount() <= 7);
            boolean open = face && Modifier.isPublic(m.getModifiers());
            right(m + " bears no public name", open || !names.contains(m.getName()));
        }
    }

    private static String bare(String source) {
        return source.replaceAll("(?s)/\\*.*?\\*/", "").replaceAll("//[^\n]*", "")
            .replaceAll("\"[^\"\n]*\"", "\"\"").replaceAll("'[^'\n]*'", "' '");
    }

    private static void source(String source) {
        String bare = bare(source);
        Matcher imports = Pattern.compile("import [^\n]*").matcher(bare);
        while (imports.find()) {
            right(imports.group(), imports.group().equals("import java.util.Arrays;"));
        }
        for (String left : LEFT_OUT) {
            Matcher m = Pattern.compile(left).matcher(bare);
            right("without " + left, !m.find());
        }
        for (char c : source.toCharArray()) {
            if (c > 126 || (c < 32 && c != '\n')) {
                right("sign " + (int) c, false);
            }
        }
        // Nothing is made but fields and what the constructor makes.
        for (String line : bare.split("\n")) {
            boolean field = line.matches(" +(private )?(final )?[A-Za-z]+(\\[\\])? [a-z]+[A-Za-z]* = new .*;");
            boolean maker = line.matches(" +(houses|tapes)\\[k\\] = new [A-Z][a-z]+\\(\\);");
            right("made: " + line.trim(), !line.contains("new ") || field || maker);
        }
    }

    private static void lengths(String source) {
        String[] lines = source.split("\n");
        for (int k = 0; k < lines.length; k++) {
            Matcher head = Pattern.compile("( {4}| {8})[a-z].*\\) \\{").matcher(lines[k]);
            if (!head.matches() || lines[k].matches(" +(if|for|while|switch) .*")) {
                continue;
            }
            int end = k;
            while (end < lines.length && !lines[end].equals(head.group(1) + "}")) {
                end++;
            }
            right(lines[k].trim() + " is short", end - k <= 60);
        }
    }

    /** Rule 11: calls go at most eight deep, each that is open counted once, recursion too. */
    private static void depths(String bare) {
        Map<String, Set<String>> calls = calls(bare);
        right("methods are found", calls.size() > FACE.length);
        for (String method : calls.keySet()) {
            int deepest = deepest(method, calls, new HashSet<>());
            right(method + " goes " + deepest + " deep", deepest <= 8);
        }
    }

    /** Of each method ("Class.name") those that it calls; behind a dot, any class's of that name. */
    private static Map<String, Set<String>> calls(String bare) {
        Map<String, String> bodies = new TreeMap<>();
        String owner = "AteLeast";
        String method = "";
        for (String line : bare.split("\n")) {
            Matcher type = Pattern.compile(" {4}static final class (\\w+) \\{").matcher(line);
            Matcher head = Pattern.compile("(?: {4}| {8})(?:[a-z]\\S* )*[A-Za-z\\[\\]]+ (\\w+)\\([^()]*\\) \\{").matcher(line);
            if (type.matches()) {
                owner = type.group(1);
            } else if (head.matches()) {
                method = owner + "." + head.group(1);
                bodies.put(method, "");
            } else if (bodies.containsKey(method)) {
                bodies.merge(method, line + "\n", String::concat);
            }
        }
        Map<String, Set<String>> calls = new TreeMap<>();
        for (String of : bodies.keySet()) {
            calls.put(of, called(of.substring(0, of.indexOf('.')), bodies.get(of), bodies.keySet()));
        }
        return calls;
    }

    private static Set<String> called(String owner, String body, Set<String> methods) {
        Set<String> called = new TreeSet<>();
        Matcher call = Pattern.compile("(\\.?)\\b(\\w+)\\(").matcher(body);
        while (call.find()) {
            for (String method : methods) {
                boolean own = method.equals(owner + "." + call.group(2));
                if (own || (!call.group(1).isEmpty() && method.endsWith("." + call.group(2)))) {
                    called.add(method);
                }
            }
        }
        return called;
    }

    private static int deepest(String method, Map<String, Set<String>> calls, Set<String> open) {
        int deepest = 0;
        open.add(method);
        for (String called : calls.get(method)) {
            if (!open.contains(called)) {
                deepest = Math.max(deepest, deepest(called, calls, open));
            }
        }
        open.remove(method);
        return deepest + 1;
    }

    /** The dearest calls make nothing that the room would have to hold. */
    private static void room() {
        AteLeast x = Due.table("loaf 0;worth 3 a<5|b=3;bake 9 i<9;scale 2", Due.e(4, 1, 2), Due.e(4, 2, 3),
            Due.e(4, 3, 4), Due.e(4, 4, 1));
        com.sun.management.ThreadMXBean threads =
            (com.sun.management.ThreadMXBean) java.lang.management.ManagementFactory.getThreadMXBean();
        dearest(x);
        long before = threads.getThreadAllocatedBytes(Thread.currentThread().getId());
        for (int k = 0; k < 33; k++) {
            dearest(x);
        }
        long made = threads.getThreadAllocatedBytes(Thread.currentThread().getId()) - before;
        right("bytes made by 429 calls: " + made, made < 100_000);
    }

    private static void dearest(AteLeast x) {
        x.thin(8);
        x.still(0);
        x.allBest(0);
        x.laws(60);
        x.cook(0, 60);
        x.pact(0, 1, 60);
        x.run(60, 20);
        x.round();
        x.mean(60, 0);
        x.image();
        x.act(0, 2, 5);
        x.house();
        x.looked();
    }

    /** Rule 7: whatever the numbers and whatever happened before, each call answers. */
    private static void neverThrows() {
        int[] numbers = {Integer.MIN_VALUE, Integer.MIN_VALUE + 1, Integer.MIN_VALUE + 10, Integer.MIN_VALUE + 20, -100, -2,
            -1, 0, 1, 2, 3, 4, 5, 6, 7, 8, 9, 10, 11, 12, 13, 14, 15, 19, 20, 24, 25, 59, 60, 61, 99, 100, 101, 127, 128,
            Integer.MAX_VALUE - 60, Integer.MAX_VALUE - 1, Integer.MAX_VALUE};
        Method[] calls = AteLeast.class.getDeclaredMethods();
        Arrays.sort(calls, (a, b) -> told(a).compareTo(told(b)));
        Random random = new Random(7);
        for (int run = 0; run < 150; run++) {
            AteLeast x = Due.table(run % 3 == 0 ? "" : "worth 3 a<5|b=3;bake 9 i<9;scale 2;law " + run % 3);
            for (int k = 0; k < 5; k++) {
                x.eater(run % 2 == 0 ? 4 : random.nextInt(7), random.nextInt(10), random.nextInt(10));
            }
            for (int k = 0; k < 440; k++) {
                Method call = calls[random.nextInt(calls.length)];
                if (Modifier.isPublic(call.getModifiers())) {
                    answers(call, x, numbers, random);
                }
            }
        }
    }

    private static void answers(Method call, AteLeast x, int[] numbers, Random random) {
        Object[] by = new Object[call.getParameterCount()];
        for (int k = 0; k < by.length; k++) {
            int number = numbers[random.nextInt(numbers.length)];
            by[k] = call.getParameterTypes()[k] == long.class ? (Object) ((long) number << random.nextInt(33)) : number;
        }
        try {
            right(call.getName() + " answers", call.invoke(x, by) != null);
        } catch (ReflectiveOperationException thrown) {
            right(call.getName() + Arrays.toString(by) + " threw " + thrown.getCause(), false);
        }
    }
}
