import java.lang.reflect.Method;
import java.lang.reflect.Modifier;
import java.util.ArrayList;
import java.util.Arrays;
import java.util.Comparator;
import java.util.HashMap;
import java.util.List;
import java.util.Map;
import java.util.Random;

/** Long runs of calls, drawn with fixed seeds, on the program and on the model: every answer must be the same. */
public final class AgainstModelTest {
    private static final int RUNS = 400;
    private static final int CALLS = 512;
    /** Of each call how often it comes and from what its numbers are drawn: the least and the greatest that are in order. */
    private static final Map<String, int[]> RANGES = new HashMap<>();

    static {
        kind("cellOf", 10, 0, 11, 0, 7);
        kind("pieceOf", 6, 0, 5, 0, 3);
        kind("piece", 12, 0, 5, 0, 9, 0, 99);
        kind("cell", 30, 0, 11, 0, 5, 0, 9, 0, 99);
        kind("puts", 10, 0, 5, 0, 11);
        kind("wears", 10, 0, 11, 0, 99);
        kind("years", 6, 1, 60);
        kind("back", 10);
        kind("behind", 6, 0, 11, 0, 60, 0, 2);
        kind("all", 6, 0, 60, 0, 2);
        kind("holes", 6, 0, 2);
        kind("lasts", 6, 0, 11);
        kind("fits", 6, 0, 5, 0, 1);
        kind("bestPiece", 6, 0, 11);
        kind("mend", 6);
        kind("keep", 3);
        kind("placed", 3, -1, 5);
        kind("when", 3, 0, 5, 0, 11);
        kind("turns", 2, 0, 1);
        kind("whose", 8, 0, 11, 0, 2);
        kind("islands", 6, 0, 99, 0, 1);
        kind("strip", 6, 0, 1);
        kind("swap", 4);
        kind("chance", 6, 0, 11, 0, 8, 2, 20, 0, 1);
        kind("oldest", 6, 0, 1);
        kind("tightest", 6, 0, 1);
        kind("ageFor", 4, 0, 11);
        kind("entire", 4);
        kind("bestOf", 6, 0, 11, 0, 1);
        kind("harm", 6, 0, 11);
        kind("pairs", 4);
        kind("sumOf", 4, 0, 2);
        kind("rank", 4, 0, 12);
        kind("doomed", 4, 0, 60);
        kind("mean", 4, 0, 1);
        kind("younger", 4, 0, 99);
        kind("unlike", 4);
        kind("row", 8, 0, 99);
        kind("judge", 2);
        kind("clear", 2);
        kind("lots", 3, 1, 20, Integer.MIN_VALUE, Integer.MAX_VALUE, 0, 1);
        kind("image", 3);
        kind("restore", 2);
        kind("count", 10, 0, 17);
        kind("feed", 2, 0, 255);
        kind("trousers", 1);
    }

    private static void kind(String name, int... often) {
        RANGES.put(name, often);
    }

    private final Random random;
    private final PatchesSameAge program = new PatchesSameAge();
    private final Model model = new Model();
    private final Map<String, Method> onProgram = new HashMap<>();
    private final Map<String, Method> onModel = new HashMap<>();
    private final List<String> draw = new ArrayList<>();
    private int calls;

    private AgainstModelTest(long seed) throws Exception {
        random = new Random(seed);
        List<Method> face = new ArrayList<>();
        for (Method method : PatchesSameAge.class.getDeclaredMethods()) {
            if (Modifier.isPublic(method.getModifiers())) face.add(method);
        }
        face.sort(Comparator.comparing(Method::getName));
        for (Method method : face) {
            onProgram.put(method.getName(), method);
            onModel.put(method.getName(), Model.class.getDeclaredMethod(method.getName(), method.getParameterTypes()));
            for (int i = 0; i < RANGES.get(method.getName())[0]; i++) draw.add(method.getName());
        }
    }

    public static void main(String[] args) throws Exception {
        for (int run = 0; run < RUNS; run++) {
            String wrong = new AgainstModelTest(run).run();
            if (wrong == null) continue;
            System.out.println("run " + run + ": " + wrong);
            System.exit(1);
        }
        System.out.println("all answers are as the model's");
    }

    private String run() throws Exception {
        boolean tells = random.nextInt(3) == 0;
        boolean slow = random.nextInt(4) != 0;
        while (calls < CALLS) {
            String wrong = tells && random.nextInt(40) == 0 ? tell() : drawn(slow);
            if (wrong != null) return wrong;
        }
        return null;
    }

    private String drawn(boolean slow) throws Exception {
        String name = draw.get(random.nextInt(draw.size()));
        if (name.equals("row") && random.nextBoolean()) return wornRow();
        int[] range = RANGES.get(name);
        Object[] numbers = new Object[(range.length - 1) / 2];
        for (int i = 0; i < numbers.length; i++) numbers[i] = drawNumber(range[1 + 2 * i], range[2 + 2 * i]);
        if (slow && name.equals("years") && random.nextInt(10) != 0) numbers[0] = random.nextInt(3) + 1;
        if (slow && name.equals("wears") && random.nextBoolean()) numbers[1] = random.nextInt(25);
        return both(name, numbers);
    }

    private int drawNumber(int least, int most) {
        int slip = random.nextInt(60);
        if (slip == 0) return least - 1;
        if (slip == 1) return most + 1;
        if (slip == 2) return random.nextInt();
        if (slip == 3) return random.nextBoolean() ? Integer.MIN_VALUE : Integer.MAX_VALUE;
        if (slip < 8) return random.nextBoolean() ? least : most;
        return least + (int) (random.nextDouble() * ((long) most - least + 1));
    }

    /** A ROW that tells how a CELL wears, or nearly so; then whose it was. */
    private String wornRow() throws Exception {
        String wrong = both("clear");
        int cell = random.nextInt(12);
        int many = random.nextInt(5) + 1;
        for (int n = 0; n < many && wrong == null; n++) {
            int wear = random.nextInt(30) == 0 ? random.nextInt(100) : model.behind(cell, n, 0);
            wrong = both("row", wear);
        }
        for (int what = 0; what < 3 && wrong == null; what++) wrong = both("whose", cell, what);
        return wrong;
    }

    private String tell() throws Exception {
        StringBuilder text = new StringBuilder();
        int statements = random.nextInt(10) + 1;
        for (int i = 0; i < statements; i++) text.append(statement());
        if (random.nextInt(4) == 0) text.setCharAt(random.nextInt(text.length()), (char) random.nextInt(256));
        if (random.nextInt(6) == 0) text.setLength(random.nextInt(text.length()));
        String wrong = null;
        for (int i = 0; i < text.length() && wrong == null; i++) wrong = both("feed", (int) text.charAt(i));
        for (int what = 0; what <= 8 && wrong == null; what++) wrong = both("count", what);
        if (wrong == null) wrong = both("trousers");
        for (int what = 0; what <= 8 && wrong == null; what++) wrong = both("count", what);
        return wrong;
    }

    private String statement() {
        boolean good = random.nextInt(12) != 0;
        int first = random.nextInt(good ? 12 : 14);
        int last = good ? first + random.nextInt(12 - first) : random.nextInt(14);
        int kind = random.nextInt(good ? 6 : 8);
        int figure = random.nextInt(10);
        int age = random.nextInt(100);
        switch (random.nextInt(5)) {
            case 0: return String.format("c%02d%02d%d%d%02d;", first, last, kind, figure, age);
            case 1: return String.format("r%d%d%02d;", kind, figure, age);
            case 2: return String.format("p%d%02d;", random.nextInt(6), first);
            case 3: return String.format("w%02d%02d;", first, random.nextInt(100));
            default: return String.format("y%02d;", good ? random.nextInt(9) + 1 : random.nextInt(100));
        }
    }

    /** Behind the last call that the document promises none is made, wherever it falls. */
    private String both(String name, Object... numbers) throws Exception {
        if (calls == CALLS) return null;
        calls++;
        long got = ((Number) onProgram.get(name).invoke(program, numbers)).longValue();
        long want = ((Number) onModel.get(name).invoke(model, numbers)).longValue();
        if (got == want) return null;
        return "call " + calls + ", " + name + Arrays.toString(numbers) + " answered " + got + ", the model " + want;
    }
}
