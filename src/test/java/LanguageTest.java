import java.lang.reflect.Field;
import java.lang.reflect.InvocationTargetException;
import java.lang.reflect.Method;
import java.lang.reflect.Modifier;
import java.nio.charset.StandardCharsets;
import java.nio.file.Files;
import java.nio.file.Path;
import java.util.ArrayList;
import java.util.Arrays;
import java.util.Comparator;
import java.util.List;
import java.util.Random;
import java.util.Set;
import java.util.TreeSet;
import java.util.regex.Matcher;
import java.util.regex.Pattern;

/** The program's face is the document's, and its text keeps to those rules of LANGUAGE.md that can be looked up in it. */
public final class LanguageTest {
    private static final Path PROGRAM = Path.of("src/main/java/PatchesSameAge.java");
    private static final Path DOCUMENT = Path.of("../shared/DOC.md");
    private static final Pattern CALL = Pattern.compile("\\b(Math|Integer|Long|System|Arrays)\\.(\\w+)");
    private static final Set<String> LIBRARY = Set.of("Math.abs", "Math.max", "Math.min", "Integer.bitCount",
        "System.arraycopy");
    private static final Pattern FORBIDDEN = Pattern.compile("\\b(import|package|throw|throws|try|catch|synchronized"
        + "|assert|native|volatile|protected|super|instanceof|equals|hashCode|toString|double|float)\\b|->|::|@|\\\\u");
    private static final Check CHECK = new Check();

    public static void main(String[] args) throws Exception {
        face();
        members();
        text();
        noCallThrows();
        CHECK.end();
    }

    /** The methods of the document's face, told as their type, name and types of numbers. */
    private static void face() throws Exception {
        Set<String> want = new TreeSet<>();
        Matcher line = Pattern.compile("(?m)^    public (int|long) (\\w+)\\((.*)\\);$")
            .matcher(Files.readString(DOCUMENT));
        while (line.find()) want.add(line.group(1) + " " + line.group(2) + "(" + types(line.group(3)) + ")");
        Set<String> got = new TreeSet<>();
        for (Method method : PatchesSameAge.class.getDeclaredMethods()) {
            if (!Modifier.isPublic(method.getModifiers())) continue;
            StringBuilder told = new StringBuilder(method.getReturnType() + " " + method.getName() + "(");
            for (Class<?> type : method.getParameterTypes()) told.append(type).append(' ');
            got.add(told.append(")").toString());
        }
        CHECK.due("methods of the document", want.size(), 46);
        Set<String> more = new TreeSet<>(got);
        more.removeAll(want);
        want.removeAll(got);
        CHECK.due("methods that lack: " + want, want.size(), 0);
        CHECK.due("methods that are too many: " + more, more.size(), 0);
        CHECK.due("final", Modifier.isFinal(PatchesSameAge.class.getModifiers()) ? 1 : 0, 1);
        CHECK.due("constructors", PatchesSameAge.class.getConstructors().length, 1);
    }

    private static String types(String parameters) {
        StringBuilder told = new StringBuilder();
        for (String one : parameters.split(",\\s*")) if (!one.isEmpty()) told.append(one.split(" ")[0]).append(' ');
        return told.toString();
    }

    private static void members() {
        Set<String> face = new TreeSet<>();
        for (Method method : PatchesSameAge.class.getMethods()) face.add(method.getName());
        List<Class<?>> classes = new ArrayList<>(List.of(PatchesSameAge.class.getDeclaredClasses()));
        CHECK.due("classes, 12 at most", Math.max(12, classes.size()), 12);
        classes.add(PatchesSameAge.class);
        for (Class<?> one : classes) {
            boolean outer = one == PatchesSameAge.class;
            CHECK.due(one + " is static", outer || Modifier.isStatic(one.getModifiers()) ? 1 : 0, 1);
            int fields = 0;
            for (Field field : one.getDeclaredFields()) {
                int how = field.getModifiers();
                CHECK.due(field + " is private", Modifier.isPrivate(how) ? 1 : 0, 1);
                CHECK.due(field + " is final if static", Modifier.isStatic(how) && !Modifier.isFinal(how) ? 0 : 1, 1);
                if (!Modifier.isStatic(how)) fields++;
            }
            CHECK.due("fields of " + one + ", 20 at most", Math.max(20, fields), 20);
            for (Method method : one.getDeclaredMethods()) {
                if (Modifier.isPublic(method.getModifiers())) continue;
                CHECK.due(method + " is private", Modifier.isPrivate(method.getModifiers()) ? 1 : 0, 1);
                CHECK.due(method + " bears no public name", face.contains(method.getName()) ? 1 : 0, 0);
                CHECK.due(method + " of 7 at most", Math.max(7, method.getParameterCount()), 7);
            }
        }
    }

    private static void text() throws Exception {
        String program = Files.readString(PROGRAM, StandardCharsets.US_ASCII);
        String code = program.replaceAll("(?s)/\\*.*?\\*/", "").replaceAll("//.*", "");
        Matcher forbidden = FORBIDDEN.matcher(code);
        while (forbidden.find()) CHECK.due("the text holds " + forbidden.group(), 1, 0);
        Matcher call = CALL.matcher(code);
        while (call.find()) CHECK.due("the library: " + call.group(), LIBRARY.contains(call.group()) ? 1 : 0, 1);
        int start = -1;
        String[] lines = program.split("\n");
        for (int i = 0; i < lines.length; i++) {
            if (lines[i].matches(" +(public|private) [^=;]*\\) \\{")) start = i;
            if (start >= 0 && lines[i].equals(lines[start].replaceAll("\\S.*", "") + "}")) {
                CHECK.due(lines[start].trim() + " 60 lines at most", Math.max(60, i - start + 1), 60);
                start = -1;
            }
        }
    }

    /** One object far past its 512 calls, numbers of every size: what is answered then is free, that it answers is not. */
    private static void noCallThrows() throws Exception {
        Random random = new Random(1);
        List<Method> calls = new ArrayList<>();
        for (Method method : PatchesSameAge.class.getDeclaredMethods()) {
            if (Modifier.isPublic(method.getModifiers())) calls.add(method);
        }
        calls.sort(Comparator.comparing(Method::getName));
        PatchesSameAge x = new PatchesSameAge();
        for (int i = 0; i < 30000; i++) {
            Method call = calls.get(random.nextInt(calls.size()));
            Object[] numbers = new Object[call.getParameterCount()];
            for (int k = 0; k < numbers.length; k++) numbers[k] = anyNumber(random);
            try {
                call.invoke(x, numbers);
            } catch (InvocationTargetException thrown) {
                CHECK.due(call.getName() + Arrays.toString(numbers) + " threw " + thrown.getCause(), 1, 0);
            }
        }
    }

    private static int anyNumber(Random random) {
        int[] ends = {Integer.MIN_VALUE, Integer.MAX_VALUE, -1, 256};
        int which = random.nextInt(10);
        if (which < 6) return random.nextInt(6);
        if (which < 8) return random.nextInt(120);
        return which == 8 ? random.nextInt() : ends[random.nextInt(ends.length)];
    }
}
