import java.io.IOException;
import java.lang.reflect.Method;
import java.lang.reflect.Modifier;
import java.nio.file.Files;
import java.nio.file.Path;
import java.util.Map;
import java.util.Set;
import java.util.TreeMap;
import java.util.TreeSet;
import java.util.regex.Matcher;
import java.util.regex.Pattern;
import java.util.stream.Collectors;
import java.util.stream.Stream;

/** What README.md says is so: its example, its answers, its calls with their refusals, and its tests. */
public final class ReadmeTest {
    private static final int[] NUMBERS = {Integer.MIN_VALUE, -9, -1, 0, 1, 2, 3, 5, 6, 9, 10, 255, 256, Integer.MAX_VALUE};
    private static final Map<Integer, String> REFUSALS = Map.of(BellCars.BAD, "BAD", BellCars.STATE, "STATE",
        BellCars.FULL, "FULL", BellCars.NO, "NO");

    public static void main(String[] args) throws IOException {
        String page = Files.readString(Path.of("README.md"));
        example(page);
        answers(page);
        calls(page);
        tests(page);
        Script.finish("ReadmeTest");
    }

    /** Each line of the example that tells an answer is called, one behind another. */
    private static void example(String page) {
        String code = page.substring(page.indexOf("```java"), page.lastIndexOf("```"));
        Matcher text = Pattern.compile("String text = \"(.*)\";").matcher(code);
        Script.holds("the example has a text", text.find());
        Script script = Script.fresh("README").type(text.group(1));
        Matcher line = Pattern.compile("(?m)^cars\\.(\\w+)\\((.*)\\); +// (-?\\d+)\\b").matcher(code);
        int lines = 0;
        while (line.find()) {
            script.calls(line.group(1) + numbers(line.group(2)) + " = " + line.group(3));
            lines++;
        }
        Script.same("lines of the example with an answer", lines, code.split("\ncars\\.").length - 1);
        Script.holds("only " + lines + " lines of the example have an answer", lines > 10);
    }

    private static String numbers(String arguments) {
        StringBuilder numbers = new StringBuilder();
        for (String argument : arguments.isEmpty() ? new String[0] : arguments.split(", ")) {
            boolean bits = argument.startsWith("0b");
            numbers.append(' ').append(bits ? Integer.parseInt(argument.substring(2), 2) : Integer.parseInt(argument));
        }
        return numbers.toString();
    }

    private static void answers(String page) {
        Map<String, Integer> due = Map.of("BAD", BellCars.BAD, "STATE", BellCars.STATE, "FULL", BellCars.FULL,
            "NONE", BellCars.NONE, "NO", BellCars.NO);
        Matcher row = Pattern.compile("(?m)^\\| (-\\d+) \\| `(\\w+)` \\|").matcher(page);
        Map<String, Integer> told = new TreeMap<>();
        while (row.find()) {
            told.put(row.group(2), Integer.valueOf(row.group(1)));
        }
        Script.holds("the constants are " + told, told.equals(due));
    }

    /** A row for each call, with as many numbers as it takes, and all refusals that can be brought about. */
    private static void calls(String page) {
        Matcher row = Pattern.compile("(?m)^\\| `(\\w+)\\((.*?)\\)` \\| .* \\| ?(.*?) ?\\|$").matcher(page);
        Map<String, Integer> told = new TreeMap<>();
        while (row.find()) {
            String name = row.group(1);
            told.put(name, row.group(2).isEmpty() ? 0 : row.group(2).split(", ").length);
            if (!name.equals("car")) {
                Set<String> refusals = new TreeSet<>(Set.of(row.group(3).replace("`", "").split(" ")));
                refusals.remove("");
                Script.holds(name + " is refused by " + refusals, refusals.equals(refusalsOf(name)));
            }
        }
        Map<String, Integer> due = new TreeMap<>();
        for (Method method : BellCars.class.getDeclaredMethods()) {
            if (Modifier.isPublic(method.getModifiers())) {
                due.put(method.getName(), method.getParameterCount());
            }
        }
        Script.holds("the calls are " + told, told.equals(due));
    }

    private static Set<String> refusalsOf(String name) {
        Set<String> refusals = new TreeSet<>();
        BellCars cars = new BellCars();
        "r0 0 2;r4 1 2;r9 2 2;".chars().forEach(cars::type);
        cars.car();
        cars.rides();
        cars.rings(1);
        refuse(refusals, cars, name, Script.method(name).getParameterCount());
        return refusals;
    }

    /** One more number each time; a call that takes no number is made until it has nothing left to do. */
    private static void refuse(Set<String> refusals, BellCars cars, String call, int left) {
        if (left > 0) {
            for (int number : NUMBERS) {
                refuse(refusals, cars, call + " " + number, left - 1);
            }
            return;
        }
        int times = call.startsWith("odds") ? 1 : 125;
        for (int i = 0; i < times; i++) {
            long answer = Script.call(cars, call);
            boolean belowNought = call.startsWith("mark") && answer != BellCars.NO;
            if (!belowNought && REFUSALS.containsKey((int) answer)) {
                refusals.add(REFUSALS.get((int) answer));
            }
        }
    }

    private static void tests(String page) throws IOException {
        Set<String> told = new TreeSet<>();
        Matcher row = Pattern.compile("(?m)^\\| `(\\w+Test)` \\|").matcher(page);
        while (row.find()) {
            told.add(row.group(1));
        }
        try (Stream<Path> files = Files.list(Path.of("src/test/java"))) {
            Set<String> due = files.map(file -> file.getFileName().toString().replace(".java", ""))
                .filter(name -> name.endsWith("Test")).collect(Collectors.toSet());
            Script.holds("the tests are " + told, told.equals(due));
        }
    }
}
