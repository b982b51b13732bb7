import java.lang.reflect.InvocationTargetException;
import java.lang.reflect.Method;
import java.util.ArrayList;
import java.util.Arrays;
import java.util.List;
import java.util.Random;

/** Runs of 512 calls, the same ones at each start, answered by BellCars and by the Model alike. */
public final class RandomRunsTest {
    private static final int RUNS = 400, CALLS = 512;
    private static final String[] NAMES = {"rider", "latest", "rides", "thinks", "rings", "twice", "seats", "boards",
        "undo", "now", "row", "soon", "odds", "circle", "chair", "saw", "forget", "laws", "likely", "mark", "keep",
        "back", "count", "trace", "clear"};
    private static final int[] WEIGHTS = {12, 8, 6, 14, 6, 5, 8, 8, 6, 6, 10, 5, 8, 6, 6, 6, 1, 6, 3, 8, 3, 3, 4, 2, 1};
    private static final int[] WILD = {-1, 6, 7, 10, 11, 63, 64, -2, 100, 255, Integer.MAX_VALUE, Integer.MIN_VALUE};

    private final Random random;
    private final BellCars cars = new BellCars();
    private final Model model = new Model();
    private final List<String> calls = new ArrayList<>();
    private int left = CALLS;

    private RandomRunsTest(int seed) {
        random = new Random(seed);
    }

    public static void main(String[] args) throws ReflectiveOperationException {
        for (int seed = 0; seed < RUNS; seed++) {
            boolean same = new RandomRunsTest(seed).run();
            Script.holds("the run of seed " + seed, same);
        }
        Script.finish("RandomRunsTest");
    }

    private boolean run() throws ReflectiveOperationException {
        boolean same = car();
        while (same && left > 0) {
            same = random.nextInt(100) == 0 ? car() : ask(name());
        }
        if (!same) {
            System.out.println(String.join("; ", calls));
        }
        return same;
    }

    private String name() {
        int place = random.nextInt(Arrays.stream(WEIGHTS).sum());
        int i = 0;
        while (place >= WEIGHTS[i]) {
            place -= WEIGHTS[i];
            i++;
        }
        return NAMES[i];
    }

    private boolean car() throws ReflectiveOperationException {
        boolean same = random.nextInt(4) == 0 || ask("clear");
        String text = text();
        for (int i = 0; same && i < text.length(); i++) {
            same = ask("type", text.charAt(i));
        }
        return same && ask("car");
    }

    private String text() {
        StringBuilder text = new StringBuilder();
        int riders = random.nextInt(20) == 0 ? random.nextInt(8) : 2 + random.nextInt(5);
        for (int i = 0; i < riders; i++) {
            text.append("r ".substring(0, 1 + random.nextInt(2))).append(random.nextInt(10)).append(' ');
            text.append(random.nextInt(10)).append(' ').append(random.nextInt(3)).append(';');
        }
        if (random.nextBoolean()) {
            text.insert(random.nextBoolean() ? 0 : text.length(), "l" + (1 + random.nextInt(20)) + ";");
        }
        if (random.nextInt(3) == 0 && text.length() > 0) {
            String signs = " 0123;rlxz@\u00ff";
            text.setCharAt(random.nextInt(text.length()), signs.charAt(random.nextInt(signs.length())));
        }
        return text.toString();
    }

    private boolean ask(String name) throws ReflectiveOperationException {
        int[] numbers = new int[Script.method(name).getParameterCount()];
        for (int i = 0; i < numbers.length; i++) {
            numbers[i] = number(name, i);
        }
        return ask(name, numbers);
    }

    private int number(String name, int i) {
        if (random.nextInt(30) == 0) {
            return WILD[random.nextInt(WILD.length)];
        }
        boolean whats = name.equals("now") || name.equals("count");
        if (name.equals("row") && i == 1) {
            return random.nextInt(7) - 1;
        }
        if (name.equals("row") || name.equals("soon")) {
            return random.nextInt(64) & (random.nextInt(3) == 0 ? 63 : model.now(1));
        }
        if (name.equals("rider") && i == 1) {
            return random.nextInt(8);
        }
        if (name.equals("seats") && i == 1) {
            return random.nextInt(10);
        }
        if (name.equals("odds") && i == 2) {
            return random.nextInt(11);
        }
        if (name.equals("keep") || name.equals("back") || i == 3 || name.equals("circle") && i == 1) {
            return random.nextInt(2);
        }
        return random.nextInt(whats ? 5 : 6);
    }

    private boolean ask(String name, int... numbers) throws ReflectiveOperationException {
        left--;
        if (left < 0) {
            return true;
        }
        Object[] arguments = Arrays.stream(numbers).boxed().toArray();
        long got = answer(Script.method(name), cars, arguments);
        Method due = Arrays.stream(Model.class.getDeclaredMethods())
            .filter(method -> method.getName().equals(name)).findFirst().orElseThrow();
        long wanted = answer(due, model, arguments);
        calls.add(name + Arrays.toString(numbers) + "=" + got + (got == wanted ? "" : " (due " + wanted + ")"));
        return got == wanted;
    }

    private static long answer(Method method, Object of, Object[] arguments) throws ReflectiveOperationException {
        try {
            return ((Number) method.invoke(of, arguments)).longValue();
        } catch (InvocationTargetException e) {
            throw new IllegalStateException(method + Arrays.toString(arguments), e.getCause());
        }
    }
}
