/** Promises 24 to 28: kinds, images and the trace. */
public final class KindsTest {
    private static final String FOUR = "r0 4 0;r3 9 1;r6 9 2;r9 1 0;l5;";

    public static void main(String[] args) {
        mark();
        markAsNow();
        trace();
        keep();
        imagesKeepNow();
        imagesKeepWhatMayBeUndone();
        imagesLeaveTheRest();
        Script.finish("KindsTest");
    }

    private static void mark() {
        Script.car("24", FOUR).calls("rides = 1, rides = 2, thinks 0 2 = 9",
            "mark 0 2 = 6, mark 1 2 = 15, mark 2 2 = 3, mark 3 2 = 30, mark 4 2 = 5, mark 5 2 = 8",
            "mark 0 0 = 0, mark 1 0 = 4, mark 2 0 = 0, mark 3 0 = 8, mark 4 0 = 0, mark 5 0 = 2",
            "mark 2 1 = 2, mark 4 3 = 11, count 3 = 3, now 2 = 9");
        Script.car("24 below 0", "r0 0 0;r0 0 0;r0 0 0;").calls("thinks 1 0 = 1, thinks 2 0 = 2, mark 2 0 = -2, mark 4 0 = -2");
        Script.car("24 BAD", FOUR).calls("mark -1 0 = -1000000, mark 6 0 = -1000000, mark 0 4 = -1000000, mark 0 -1 = -1000000",
            "mark 2147483647 0 = -1000000, mark 0 -2147483648 = -1000000, trace = 0");
    }

    private static void markAsNow() {
        Script.car("24 of one down", FOUR).calls("seats 1 8 = 3, thinks 1 0 = 1, thinks 2 1 = 2, thinks 3 1 = 3, rings 1 = 3",
            "rings 0 = 1, mark 0 1 = 8, mark 2 1 = 6, mark 3 1 = 34, mark 4 1 = 7, mark 5 1 = 8, rides = 1, mark 5 1 = 9");
    }

    private static void trace() {
        Script.car("28", FOUR).calls("trace = 0, mark 0 0 = 0, trace = 1, mark 1 0 = 4, trace = 12, mark 2 0 = 0, trace = 113",
            "mark 3 0 = 8, trace = 1124, mark 4 0 = 0, trace = 11225, mark 5 0 = 0, trace = 111226, mark 6 0 = -1000000",
            "mark 0 9 = -1000000, trace = 111226, keep 0 = 0, mark 0 0 = 0, back 0 = 0, rides = 1, undo = 0, trace = 111227",
            "car = 0, trace = 111227, rider 0 0 = -1, trace = 111227");
        Script.car("28 above an int's half", FOUR).times(400, "mark 4 0").calls("trace = 4040400");
    }

    private static void keep() {
        Script.car("25, 26", FOUR).calls("keep -1 = -1, keep 2 = -1, keep 2147483647 = -1, back -1 = -1, back 2 = -1",
            "back 0 = -2, back 1 = -2, keep 1 = 0, back 0 = -2, back 1 = 0, rides = 1, keep 0 = 1, rides = 2, back 1 = 0",
            "now 0 = 0, back 0 = 1, now 0 = 1, rides = 2, keep 0 = 2, rides = 3, back 0 = 2, now 0 = 2, back 0 = 2",
            "car = 0, back 0 = -2, back 1 = -2");
        Script.fresh("25 nobody").calls("keep 0 = 0, keep 1 = 0, rides = 1, back 1 = 0, now 0 = 0");
    }

    private static void imagesKeepNow() {
        Script.car("26 all", FOUR).calls("rides = 1, rings 1 = 0, seats 2 8 = 6, rings 0 = -2, thinks 2 1 = 5, rings 3 = 2",
            "twice 3 = -9, keep 0 = 1, now 3 = 1",
            "boards 0 = 3, boards 2 = 4, seats 2 0 = 8, seats 1 1 = 3, rides = 2, thinks 0 3 = 10, rings 3 = 0, now 3 = 1",
            "twice 0 = -2, rides = 3, rings 1 = 3, rings 1 = 2, rings 1 = -9, now 3 = 2, back 0 = 1",
            "now 0 = 1, now 1 = 10, now 2 = 5, now 3 = 1, rider 0 3 = 0, rider 0 4 = 1, rider 2 4 = 1, rider 2 0 = 8",
            "rider 1 0 = 3, latest 2 1 = 5, latest 0 3 = 0, latest 0 1 = 1, latest 3 2 = 4, latest 3 1 = 0, thinks 1 3 = 6");
    }

    private static void imagesKeepWhatMayBeUndone() {
        Script.car("26 undone", FOUR).calls("rides = 1, seats 0 5 = 0, keep 0 = 1, undo = 1, undo = 0, undo = -2, back 0 = 1",
            "count 3 = 2, undo = 1, rider 0 0 = 0, now 0 = 1, undo = 0, now 0 = 0, back 0 = 1, undo = 1, rides = 2, back 0 = 1",
            "count 3 = 2, rider 0 0 = 5, undo = 1, rider 0 0 = 0");
        Script.car("26 ten undone", FOUR).times(14, "rides").calls("keep 1 = 14").times(3, "rides").times(13, "undo").calls(
            "now 0 = 7, count 3 = 0, back 1 = 14, count 3 = 10, undo = 9, now 0 = 13, rides = 14, rides = 15, undo = 9")
            .times(8, "undo").calls("count 3 = 1, now 0 = 6, undo = 0, now 0 = 5, undo = -2");
        Script.car("26 the oldest undone", FOUR).times(11, "rides").calls("keep 0 = 11, back 0 = 11").times(9, "undo")
            .calls("now 0 = 2, undo = 0, now 0 = 1, now 2 = 4, undo = -2");
        Script.car("26 none undone", FOUR).calls("keep 0 = 0, rides = 1, rides = 2, back 0 = 0, count 3 = 0, undo = -2");
    }

    private static void imagesLeaveTheRest() {
        Script.car("26 the rest", FOUR).calls("saw 0 1 = 1, keep 0 = 0, saw 0 2 = 2, mark 0 0 = 0, type 32 = 1, back 0 = 0",
            "count 2 = 2, trace = 1, count 4 = 1, forget = 2, back 0 = 0, count 2 = 0, back 1 = -2");
    }
}
