import java.lang.reflect.Method;
import java.nio.file.Files;
import java.nio.file.Path;
import java.util.Arrays;
import java.util.regex.Matcher;
import java.util.regex.Pattern;

/** README.md says how to use the class: its calls answer what it says, and it names every call of the document's face. */
public final class ReadmeTest {
    private static final Path README = Path.of("README.md");
    private static final Path DOCUMENT = Path.of("../shared/DOC.md");
    private static final Pattern EXAMPLE = Pattern.compile("(?m)^x\\.(\\w+)\\((.*)\\); +// (-?\\d+)"
        + "|^for .*\"(.*)\"\\.toCharArray.*$");
    private static final Pattern FACE = Pattern.compile("(?m)^    public (?:int|long) (\\w+\\(.*\\));$");
    private static final Check CHECK = new Check();

    public static void main(String[] args) throws Exception {
        String readme = Files.readString(README);
        examples(readme);
        names(readme);
        CHECK.end();
    }

    private static void examples(String readme) throws Exception {
        PatchesSameAge x = new PatchesSameAge();
        Matcher example = EXAMPLE.matcher(readme);
        int many = 0;
        while (example.find()) {
            many++;
            if (example.group(4) == null) {
                CHECK.due(example.group(), call(x, example.group(1), example.group(2)), Long.parseLong(example.group(3)));
            } else {
                for (char letter : example.group(4).toCharArray()) x.feed(letter);
            }
        }
        CHECK.due("examples found, none passed over", many, readme.lines().filter(l -> l.contains(" x.feed(")
            || l.startsWith("x.")).count());
        CHECK.due("some were found", Math.min(1, many), 1);
    }

    private static long call(PatchesSameAge x, String name, String numbers) throws Exception {
        Object[] told = Arrays.stream(numbers.split(", *")).filter(n -> !n.isEmpty()).map(Integer::valueOf).toArray();
        Class<?>[] types = new Class<?>[told.length];
        Arrays.fill(types, int.class);
        Method method = PatchesSameAge.class.getMethod(name, types);
        return ((Number) method.invoke(x, told)).longValue();
    }

    private static void names(String readme) throws Exception {
        Matcher call = FACE.matcher(Files.readString(DOCUMENT));
        int many = 0;
        while (call.find()) {
            many++;
            String name = call.group(1).replaceAll("\\bint ", "");
            CHECK.due(name + " is told", readme.contains("`" + name + "`") ? 1 : 0, 1);
        }
        CHECK.due("calls of the face", many, 46);
    }
}
