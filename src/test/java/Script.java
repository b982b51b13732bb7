import java.lang.reflect.Method;

/**
 * Runs of calls written as text: "thinks 0 1 = 1" calls thinks(0, 1) and wants 1;
 * several calls stand in one line with commas between them.
 */
final class Script {
    private static int asked = 0;
    private static int wrong = 0;

    private final String name;
    private final BellCars cars = new BellCars();

    private Script(String name) {
        this.name = name;
    }

    /** A new object, for which the text of a car is read first. */
    static Script car(String name, String text) {
        Script script = new Script(name);
        script.type(text);
        int items = 0;
        for (int i = 0; i < text.length(); i++) {
            items += text.charAt(i) == ';' ? 1 : 0;
        }
        same(name + ": car of " + text, script.cars.car(), items);
        return script;
    }

    static Script fresh(String name) {
        return new Script(name);
    }

    /** The text can't be read: FAULT is at that place, and the text stays, as all else does. */
    static void fault(String name, String text, int place) {
        fresh(name + ": '" + text + "'").type(text).calls("car = " + (-10 - place),
            "count 4 = " + text.length() + ", count 0 = 0, count 1 = 9, car = " + (-10 - place));
    }

    Script type(String text) {
        for (int i = 0; i < text.length(); i++) {
            cars.type(text.charAt(i));
        }
        return this;
    }

    Script calls(String... lines) {
        for (String line : lines) {
            for (String call : line.split(",")) {
                String[] sides = call.split("=");
                same(name + ": " + call.trim(), answer(sides[0].trim()), Long.parseLong(sides[1].trim()));
            }
        }
        return this;
    }

    Script times(int times, String line) {
        for (int i = 0; i < times; i++) {
            answer(line);
        }
        return this;
    }

    private long answer(String call) {
        return call(cars, call);
    }

    static long call(BellCars cars, String call) {
        String[] words = call.split(" +");
        Object[] numbers = new Object[words.length - 1];
        for (int i = 1; i < words.length; i++) {
            numbers[i - 1] = Integer.parseInt(words[i]);
        }
        try {
            return ((Number) method(words[0]).invoke(cars, numbers)).longValue();
        } catch (ReflectiveOperationException e) {
            throw new IllegalStateException(call, e);
        }
    }

    static Method method(String name) {
        for (Method method : BellCars.class.getMethods()) {
            if (method.getName().equals(name)) {
                return method;
            }
        }
        throw new IllegalStateException("no method " + name);
    }

    static void same(String what, long got, long due) {
        asked++;
        if (got != due) {
            wrong++;
            System.out.println(what + " answered " + got + ", due is " + due);
        }
    }

    static void holds(String what, boolean held) {
        same(what, held ? 1 : 0, 1);
    }

    static void finish(String test) {
        System.out.println(test + ": " + asked + " asked, " + wrong + " wrong");
        if (wrong != 0 || asked == 0) {
            System.exit(1);
        }
    }
}
