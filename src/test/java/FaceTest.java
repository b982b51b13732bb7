import java.lang.reflect.Constructor;
import java.lang.reflect.Field;
import java.lang.reflect.Method;
import java.lang.reflect.Modifier;
import java.util.Set;
import java.util.TreeSet;

/** The public face: just what the document tells, and no private method of a public one's name. */
public final class FaceTest {
    private static final String[] METHODS = {
        "int type(int)", "int clear()", "int car()", "int rider(int,int)", "int latest(int,int)", "int rides()",
        "int thinks(int,int)", "int rings(int)", "int twice(int)", "int seats(int,int)", "int boards(int)",
        "int undo()", "int now(int)", "int row(int,int)", "int soon(int)", "int odds(int,int,int,int)",
        "int circle(int,int)", "int chair(int,int)", "int saw(int,int)", "int forget()", "int laws(int)",
        "int likely()", "int mark(int,int)", "int keep(int)", "int back(int)", "int count(int)", "long trace()"};

    public static void main(String[] args) {
        constants();
        methods();
        constructors();
        classesInside();
        Script.finish("FaceTest");
    }

    private static void constants() {
        Script.same("BAD", BellCars.BAD, -1);
        Script.same("STATE", BellCars.STATE, -2);
        Script.same("FULL", BellCars.FULL, -3);
        Script.same("NONE", BellCars.NONE, -9);
        Script.same("NO", BellCars.NO, -1000000);
        Set<String> seen = new TreeSet<>();
        for (Field field : BellCars.class.getDeclaredFields()) {
            int modifiers = field.getModifiers();
            if (!Modifier.isPrivate(modifiers)) {
                seen.add(field.getName());
                Script.holds(field + " is a constant", Modifier.isPublic(modifiers) && Modifier.isStatic(modifiers)
                    && Modifier.isFinal(modifiers) && field.getType() == int.class);
            }
        }
        Script.holds("the constants are " + seen, seen.equals(Set.of("BAD", "STATE", "FULL", "NONE", "NO")));
    }

    private static void methods() {
        Set<String> due = new TreeSet<>(Set.of(METHODS));
        Set<String> names = new TreeSet<>();
        Set<String> seen = new TreeSet<>();
        for (Method method : BellCars.class.getDeclaredMethods()) {
            if (!Modifier.isPrivate(method.getModifiers())) {
                seen.add(signature(method));
                names.add(method.getName());
                Script.holds(method + " is public", Modifier.isPublic(method.getModifiers()));
                Script.holds(method + " is of an object", !Modifier.isStatic(method.getModifiers()));
            }
        }
        Script.holds("the methods are " + seen, seen.equals(due));
        noOtherOfThose(names, BellCars.class);
        for (Class<?> inside : BellCars.class.getDeclaredClasses()) {
            noOtherOfThose(names, inside);
        }
    }

    private static void noOtherOfThose(Set<String> names, Class<?> among) {
        for (Method method : among.getDeclaredMethods()) {
            boolean face = among == BellCars.class && Modifier.isPublic(method.getModifiers());
            Script.holds(method + " bears a public one's name", face || !names.contains(method.getName()));
            Script.holds(method + " takes seven at most", method.getParameterCount() <= 7);
        }
    }

    private static String signature(Method method) {
        StringBuilder text = new StringBuilder(method.getReturnType().getName());
        text.append(' ').append(method.getName()).append('(');
        for (Class<?> type : method.getParameterTypes()) {
            text.append(text.charAt(text.length() - 1) == '(' ? "" : ",").append(type.getName());
        }
        return text.append(')').toString();
    }

    private static void constructors() {
        Constructor<?>[] all = BellCars.class.getDeclaredConstructors();
        Script.same("constructors", all.length, 1);
        Script.holds("the constructor", Modifier.isPublic(all[0].getModifiers()) && all[0].getParameterCount() == 0);
        Script.holds("public and final", Modifier.isPublic(BellCars.class.getModifiers())
            && Modifier.isFinal(BellCars.class.getModifiers()));
    }

    private static void classesInside() {
        Script.holds("twelve classes at most", BellCars.class.getDeclaredClasses().length < 12);
        for (Class<?> inside : BellCars.class.getDeclaredClasses()) {
            Script.holds(inside + " is static", Modifier.isStatic(inside.getModifiers()));
            fewFields(inside);
        }
        fewFields(BellCars.class);
    }

    private static void fewFields(Class<?> among) {
        int fields = 0;
        for (Field field : among.getDeclaredFields()) {
            boolean ofClass = Modifier.isStatic(field.getModifiers());
            fields += ofClass ? 0 : 1;
            Script.holds(field + " is final, if it is static", !ofClass || Modifier.isFinal(field.getModifiers()));
        }
        Script.holds(among + " has twenty fields at most", fields <= 20);
    }
}
