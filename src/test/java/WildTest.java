import java.lang.reflect.InvocationTargetException;
import java.lang.reflect.Method;
import java.lang.reflect.Modifier;
import java.util.Arrays;

/** No call throws, for any arguments in any state; what is refused changes nothing. */
public final class WildTest {
    private static final int[] NUMBERS = {Integer.MIN_VALUE, -1000000, -9, -2, -1, 0, 1, 5, 6, 9, 10, 31, 32, 64,
        120, 256, 1 << 30, Integer.MAX_VALUE};
    private static final String FULL_CAR = "r5 5 2;r0 1 1;r9 2 0;r4 9 1;r4 0 2;r7 7 0;l1;";

    public static void main(String[] args) throws ReflectiveOperationException {
        all(new BellCars());
        all(with(FULL_CAR));
        all(with("r5 5 2;"));
        BellCars busy = with(FULL_CAR);
        for (int i = 0; i < 2000; i++) {
            busy.rides();
            busy.rings(i % 6);
            busy.saw(i % 5, 5);
            busy.keep(i % 2);
        }
        all(busy);
        refusedChangesNothing();
        Script.finish("WildTest");
    }

    private static BellCars with(String text) {
        BellCars cars = new BellCars();
        text.chars().forEach(cars::type);
        cars.car();
        return cars;
    }

    private static void all(BellCars cars) throws ReflectiveOperationException {
        for (Method method : BellCars.class.getDeclaredMethods()) {
            if (Modifier.isPublic(method.getModifiers())) {
                fill(cars, method, new Object[method.getParameterCount()], 0);
            }
        }
    }

    private static void fill(BellCars cars, Method method, Object[] arguments, int at)
            throws ReflectiveOperationException {
        if (at == arguments.length) {
            try {
                method.invoke(cars, arguments);
                Script.holds(method.getName(), true);
            } catch (InvocationTargetException e) {
                Script.holds(method + Arrays.toString(arguments) + " threw " + e.getCause(), false);
            }
            return;
        }
        for (int number : NUMBERS) {
            arguments[at] = number;
            fill(cars, method, arguments, at + 1);
        }
    }

    private static void refusedChangesNothing() {
        Script script = Script.car("refused", FULL_CAR).calls("rides = 1, thinks 1 0 = 7, rings 0 = 1");
        String[] refused = {"type 256 = -1", "thinks 0 1 = -2", "thinks 0 0 = -1", "rings 1 = -2",
            "rings 6 = -1", "twice 1 = -2", "twice 6 = -1", "seats 1 0 = -2", "seats 0 5 = -2", "seats 0 10 = -1",
            "boards 0 = -2", "boards 6 = -1", "back 0 = -2", "back 2 = -1", "keep 2 = -1", "saw 0 1 = -1",
            "row 2 -1 = -1", "soon 2 = -1", "mark 6 0 = -1000000"};
        for (String call : refused) {
            script.calls(call, "now 0 = 1, now 1 = 61, now 2 = 7, now 3 = 0, count 2 = 0, count 3 = 3, count 4 = 0",
                "trace = 0, latest 0 1 = 1, latest 1 0 = 7, rider 0 0 = 5, rider 1 0 = 0, rider 1 4 = 1");
        }
    }
}
