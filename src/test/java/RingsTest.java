/** Promises 15 to 17: rows of rings, how soon there are such, and the odds. */
public final class RingsTest {
    private static final String RING = "r5 5 2;r5 5 2;r5 5 2;r5 5 2;r5 5 2;r5 5 2;l20;";
    private static final String FOUR = "r0 0 2;r3 0 2;r6 0 2;r9 0 2;";

    public static void main(String[] args) {
        row();
        rowOfSeveral();
        rowOfRingersDown();
        rowChangesNothing();
        soon();
        odds();
        oddsBad();
        Script.finish("RingsTest");
    }

    private static void row() {
        Script.car("15", RING).calls("row 0 -1 = 1, row 0 0 = -9, row 1 -1 = 0, row 1 0 = -9, rides = 1",
            "row 63 -1 = 0, row 63 0 = -9, row 62 -1 = 1, row 62 0 = 2, row 62 1 = 3, row 62 2 = 4, row 62 3 = 5",
            "row 62 4 = 0, row 62 5 = -9, row 1 -1 = 1, row 1 0 = 1, row 1 1 = -9, row 32 0 = 0, row 3 -1 = 1",
            "row 3 0 = 1, row 3 1 = 2, row 5 -1 = 2, row 5 0 = 1, row 5 1 = 3, row 5 2 = -9, row 0 0 = -9, row 0 5 = -9");
        Script.car("15 BAD", FOUR).calls("row 16 -1 = -1, row -1 -1 = -1, row 15 6 = -1, row 15 -2 = -1",
            "row 2147483647 0 = -1, row -2147483648 0 = -1, row 0 2147483647 = -1, row 0 -2147483648 = -1",
            "thinks 0 1 = 1, rings 1 = 0, row 1 -1 = -1, row 14 -1 = 0, row 15 0 = -1, row 2 -1 = 0");
    }

    private static void rowOfSeveral() {
        // 0 and 1 think of 3 (0 later); 0 thinks of 2, too.
        Script.car("15 several", FOUR).calls("thinks 1 3 = 1, thinks 0 3 = 2, thinks 0 2 = 3",
            "row 1 -1 = 2, row 1 0 = 2, row 1 1 = -9, row 2 -1 = 0, row 3 -1 = 1, row 3 0 = 2, row 3 1 = 3, row 3 2 = -9");
        // Whoever has rung does not ring again, though 1 would get down by it.
        Script.car("15 unlike ringers", FOUR).calls("thinks 1 0 = 1, thinks 2 0 = 2, thinks 1 3 = 3",
            "row 6 -1 = 2, row 6 0 = 0, row 6 1 = 3, row 6 2 = -9");
        // Each thinks of each: whoever rings, the one who thought latest of him gets down.
        Script.car("15 all", FOUR).calls("thinks 1 0 = 1, thinks 2 0 = 2, thinks 0 1 = 3, thinks 2 1 = 4",
            "row 4 -1 = 2, row 4 0 = 0, row 6 -1 = 1, row 6 0 = 1, row 6 1 = 0, row 5 -1 = 1, row 5 0 = 0, row 5 1 = 1",
            "row 7 -1 = 0, row 1 -1 = 0, row 2 -1 = 0");
    }

    private static void rowOfRingersDown() {
        // 0 thinks of 1, 1 of 0: whoever rings first stays, and nobody rings twice in a row.
        Script.car("15 each of the other", FOUR).calls("thinks 0 1 = 1, thinks 1 0 = 2, row 1 -1 = 1, row 1 0 = 1",
            "row 2 0 = 0, row 3 -1 = 0, row 3 0 = -9");
        // 1 and 2 think of 0 alone: 0 would have to ring twice for both.
        Script.car("15 unlike ones", FOUR).calls("thinks 1 0 = 1, thinks 2 0 = 2, row 4 -1 = 1, row 6 -1 = 0, row 2 -1 = 0");
        // A ringer who is down can't ring: 1 lets 0 down, so 0 must have rung ahead of that.
        Script.car("15 ahead", FOUR).calls("thinks 0 1 = 1, thinks 2 0 = 2, row 5 -1 = 1, row 5 0 = 0, row 5 1 = 1");
    }

    private static void rowChangesNothing() {
        Script.car("15 unchanged", FOUR).calls("rides = 1, row 7 -1 = 1, row 7 2 = 3, soon 15 = -9, odds 0 3 5 0 = 1",
            "now 0 = 1, now 1 = 15, now 2 = 4, now 3 = 0, count 3 = 1, rider 0 4 = -9, latest 0 1 = 1, latest 3 0 = 4");
    }

    private static void soon() {
        Script.car("16", FOUR).calls("soon 0 = 0, soon 1 = 1, soon 14 = 1, soon 15 = -9, now 0 = 0, now 2 = 0",
            "count 3 = 0, thinks 0 1 = 1, soon 1 = 0, soon 2 = 1, soon 3 = 1, soon 15 = -9, rides = 1, soon 2 = 0",
            "soon 16 = -1, soon -1 = -1, soon 2147483647 = -1, soon -2147483648 = -1, rings 1 = 0, soon 1 = -1, soon 0 = 0",
            "soon 6 = 0, soon 8 = 1, soon 10 = 1, soon 2 = 0, soon 14 = -9");
        // By LAW 1 all think of 0, and 0 of 1: then 1 rings for 0, 0 rings for 3.
        Script.car("16 looks", "r0 9 1;r0 8 1;r0 7 1;r0 6 1;").calls("soon 1 = 1, soon 8 = 1, soon 4 = -9, soon 2 = -9",
            "soon 9 = 1, soon 12 = -9, rides = 1, soon 1 = 0, soon 2 = -9");
        Script.car("16 by the lowest", FOUR).calls("thinks 2 0 = 1, soon 4 = 0, soon 2 = 1");
        Script.car("16 alone", "r0 0 0;").calls("soon 1 = -9, soon 0 = 0, soon 2 = -1");
        Script.car("16 at the last stop", FOUR).times(99, "rides").calls("rides = -2, soon 1 = 0, rings 0 = 3, soon 4 = 1",
            "soon 7 = -9, now 0 = 99");
        Script.fresh("16 nobody").calls("soon 0 = 0, soon 1 = -1");
    }

    private static void odds() {
        // 1, then 2, then 3 thought of 0.
        Script.car("17", FOUR).calls("thinks 1 0 = 1, thinks 2 0 = 2, thinks 3 0 = 3",
            "odds 0 3 4 0 = 3, odds 0 3 4 1 = 5, odds 0 2 4 0 = 6, odds 0 2 4 1 = 25, odds 0 1 4 0 = 12, odds 0 1 4 1 = 125",
            "odds 0 3 0 0 = 1, odds 0 3 0 1 = 1, odds 0 2 0 0 = 0, odds 0 2 0 1 = 1, odds 0 3 10 0 = 0, odds 0 3 10 1 = 1",
            "odds 0 2 10 0 = 0, odds 0 2 10 1 = 1, odds 0 2 5 0 = 1, odds 0 2 5 1 = 4, odds 0 2 1 0 = 9, odds 0 2 1 1 = 100",
            "odds 1 0 5 0 = 0, odds 1 0 5 1 = 1, odds 0 1 9 0 = 81, odds 0 1 9 1 = 1000",
            "thinks 1 0 = 4, odds 0 1 4 0 = 3, odds 0 3 4 0 = 6, odds 0 2 4 1 = 125");
        Script.car("17 those down do not matter", FOUR).calls("thinks 1 0 = 1, thinks 2 0 = 2, thinks 3 0 = 3",
            "thinks 3 1 = 4, rings 1 = 3, odds 0 2 4 0 = 3, odds 0 2 4 1 = 5, odds 0 3 4 0 = -1, odds 3 0 4 0 = -1");
        Script.car("17 the lowest ahead", FOUR).calls("thinks 1 3 = 1, thinks 0 3 = 2, odds 3 1 4 0 = 6, odds 3 1 4 1 = 25");
        Script.car("17 six", RING).calls("thinks 1 0 = 1, thinks 2 0 = 2, thinks 3 0 = 3, thinks 4 0 = 4, thinks 5 0 = 5",
            "odds 0 1 9 0 = 6561, odds 0 1 9 1 = 100000, odds 0 1 2 0 = 4, odds 0 1 2 1 = 3125");
    }

    private static void oddsBad() {
        Script.car("17 BAD", FOUR).calls("thinks 1 0 = 1, odds 0 0 5 0 = -1, odds 0 4 5 0 = -1, odds 4 0 5 0 = -1",
            "odds -1 0 5 0 = -1, odds 0 -1 5 0 = -1, odds 0 1 -1 0 = -1, odds 0 1 11 0 = -1, odds 0 1 5 -1 = -1",
            "odds 0 1 5 2 = -1, odds 0 1 2147483647 0 = -1, odds 0 1 5 2147483647 = -1, odds 0 1 5 0 = 1, odds 0 1 5 1 = 2");
        Script.fresh("17 nobody").calls("odds 0 1 5 0 = -1");
    }
}
