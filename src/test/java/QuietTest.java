import java.util.ArrayList;
import java.util.List;

/** What is refused, and what only asks, changes nothing: not NOW, nor what may be UNDONE, nor the IMAGES. */
public final class QuietTest {
    private static final String CAR = "r0 0 2;r4 1 2;r9 2 2;r5 9 0;l3;";
    /** Brings 1 down and keeps both images; all six sorts are among what may be undone. */
    private static final String[] BUSY = {"rings 3", "rides", "thinks 1 0", "keep 0", "rings 0", "seats 2 7", "boards 1",
        "thinks 0 3",
        "thinks 1 2", "twice 0", "boards 3", "rings 2", "rides", "keep 1", "saw 0 2", "saw 2 3", "mark 3 0", "type 114"};
    private static final String[] REFUSED = {"type -1", "type 256", "car", "rider 4 0", "rider 0 8", "latest 0 0",
        "latest 4 0",
        "thinks 0 0", "thinks 0 4", "thinks -1 0", "thinks 0 1", "thinks 1 0", "rings 4", "rings -1", "rings 1", "twice 4",
            "twice -1",
        "twice 1", "seats 4 0", "seats 0 10", "seats 0 -1", "seats 1 0", "seats 0 0", "boards 4", "boards -1", "boards 0",
            "now 5",
        "row 16 -1", "row 2 -1", "row 1 6", "row 1 -2", "soon 16", "soon 2", "odds 0 0 5 0", "odds 0 1 5 0", "odds 0 2 11 0",
        "odds 0 2 5 2", "circle 1 0", "circle 4 0", "circle 0 2", "chair 0 0", "chair 0 1", "chair 4 0", "saw 0 0", "saw 0 1",
        "saw 1 0", "saw 4 0", "laws 4", "keep 2", "keep -1", "back 2", "back -1", "count 5"};
    private static final String[] ASKS = {"rider 0 5", "rider 1 5", "rider 0 6", "rider 0 7", "latest 0 1", "now 4",
        "row 1 -1",
        "row 5 -1", "row 5 0", "row 13 1", "soon 1", "soon 5", "soon 13", "odds 0 2 3 0", "odds 0 2 3 1", "circle 0 0",
            "circle 3 1",
        "chair 0 2", "chair 0 3", "laws 0", "laws 1", "likely", "count 3", "trace"};

    public static void main(String[] args) {
        refusedChangesNothing();
        askedChangesNothing();
        refusedForStateOrFull();
        Script.finish("QuietTest");
    }

    private static void refusedChangesNothing() {
        BellCars start = busy();
        Script.same("all but 1 are aboard", start.now(1), 13);
        Script.same("lonely", start.now(3), 1);
        Script.same("ten may be undone", start.count(3), 10);
        for (String call : REFUSED) {
            BellCars cars = busy();
            long answer = Script.call(cars, call);
            boolean refused = answer == BellCars.BAD || answer == BellCars.STATE || call.equals("car") && answer == -11;
            Script.holds(call + " is refused", refused);
            Script.holds(call + " changes nothing", all(cars).equals(all(busy())));
        }
        for (String call : new String[] {"mark 6 0", "mark -1 0", "mark 0 4", "mark 3 -1"}) {
            BellCars cars = busy();
            Script.same(call, Script.call(cars, call), BellCars.NO);
            Script.holds(call + " changes nothing", all(cars).equals(all(busy())));
        }
    }

    private static void askedChangesNothing() {
        for (String call : ASKS) {
            BellCars cars = busy();
            long answer = Script.call(cars, call);
            Script.same(call + " once more", Script.call(cars, call), answer);
            Script.holds(call + " changes nothing", all(cars).equals(all(busy())));
        }
    }

    /** What is refused at the end of what there is room for. */
    private static void refusedForStateOrFull() {
        String[][] ends = {{"120", "type 32", "type 32"}, {"99", "rides", "rides"}, {"6", "saw 0 2", "saw 0 2"}, {"10",
            "undo", "undo"}};
        for (String[] end : ends) {
            BellCars cars = told();
            BellCars same = told();
            for (int i = 0; i < Integer.parseInt(end[0]); i++) {
                Script.call(cars, end[1]);
                Script.call(same, end[1]);
            }
            long answer = Script.call(cars, end[2]);
            boolean full = end[2].equals("type 32") || end[2].startsWith("saw");
            Script.same(end[2] + " is refused", answer, full ? BellCars.FULL : BellCars.STATE);
            Script.holds(end[2] + " changes nothing", all(cars).equals(all(same)));
        }
        BellCars cars = told();
        Script.same("back 0", cars.back(0), BellCars.STATE);
        Script.holds("back 0 changes nothing", all(cars).equals(all(told())));
    }

    private static BellCars told() {
        BellCars cars = new BellCars();
        CAR.chars().forEach(cars::type);
        cars.car();
        return cars;
    }

    private static BellCars busy() {
        BellCars cars = told();
        for (String call : BUSY) {
            Script.call(cars, call);
        }
        return cars;
    }

    /** All that can be asked now, with all undone step by step, and of both images. */
    private static List<Long> all(BellCars cars) {
        List<Long> seen = new ArrayList<>();
        addNow(seen, cars);
        seen.add((long) cars.back(0));
        addUndone(seen, cars);
        seen.add((long) cars.back(1));
        addUndone(seen, cars);
        seen.add((long) cars.clear());
        return seen;
    }

    private static void addUndone(List<Long> seen, BellCars cars) {
        for (int i = 0; i < 11; i++) {
            addNow(seen, cars);
            seen.add((long) cars.undo());
        }
    }

    private static void addNow(List<Long> seen, BellCars cars) {
        for (int r = 0; r < 4; r++) {
            for (int what = 0; what < 8; what++) {
                seen.add((long) cars.rider(r, what));
            }
            for (int q = 0; q < 4; q++) {
                seen.add((long) cars.latest(r, q));
            }
            seen.add((long) cars.laws(r));
        }
        for (int what = 0; what < 5; what++) {
            seen.add((long) cars.now(what));
            seen.add((long) cars.count(what));
        }
        seen.add((long) cars.likely());
        seen.add(cars.trace());
    }
}
