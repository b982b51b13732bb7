/** Promises 18 to 23: circles, chairs, what was seen, and the laws that fit it. */
public final class ThoughtsTest {
    private static final String FOUR = "r0 4 0;r3 9 1;r6 9 2;r9 1 0;";

    public static void main(String[] args) {
        circle();
        chair();
        saw();
        forget();
        laws();
        lawsAsNow();
        likely();
        Script.finish("ThoughtsTest");
    }

    private static void circle() {
        // 0 thinks of 1, 1 of 2, 2 of 3, 3 of 2.
        Script.car("18", FOUR).calls("circle 0 0 = 2, circle 0 1 = 2, circle 1 0 = 2, circle 1 1 = 2, circle 2 0 = 2",
            "circle 3 1 = 2, circle 0 2 = -1, circle 0 -1 = -1, circle 4 0 = -1, circle -1 0 = -1, circle 2147483647 0 = -1",
            "thinks 3 0 = 1, rings 0 = 3, circle 3 0 = -1, circle 3 1 = -1",
            "circle 0 0 = 3, circle 0 1 = 0, circle 1 0 = 3, circle 1 1 = 0, circle 2 0 = 3, circle 2 1 = 0");
        Script.car("18 all", "r0 0 2;r0 0 2;r0 0 2;r0 0 2;r0 0 2;r0 0 2;").calls("circle 5 0 = 6, circle 5 1 = 0");
        Script.car("18 a long way in", "r0 0 2;r0 0 2;r0 0 2;r0 0 2;r9 0 0;r9 0 0;").calls("circle 0 0 = 2, circle 0 1 = 4");
        Script.car("18 alone", "r0 0 2;").calls("circle 0 0 = -9, circle 0 1 = -9, circle 0 2 = -1");
        Script.fresh("18 nobody").calls("circle 0 0 = -1");
    }

    private static void chair() {
        Script.car("19", FOUR).calls("chair 0 1 = 0, chair 0 2 = 5, chair 0 3 = 8, chair 1 0 = 0, chair 1 2 = 4",
            "chair 1 3 = 8, chair 3 0 = 0, chair 3 1 = 2, chair 3 2 = 5, chair 0 0 = -1, chair 0 4 = -1, chair 4 0 = -1",
            "chair -1 0 = -1, chair 0 -1 = -1, rider 0 0 = 0, count 3 = 0",
            "thinks 1 0 = 1, rings 0 = 1, chair 0 1 = -1, chair 1 0 = -1, chair 0 2 = 0, chair 0 3 = 8",
            "seats 3 6 = 9, chair 0 3 = -9, chair 0 2 = 0, chair 2 3 = 4, chair 2 0 = 0");
        Script.car("19 two", "r5 0 1;r5 0 2;").calls("chair 0 1 = 0, chair 1 0 = 0");
        Script.car("19 covered", "r0 0 0;r0 0 0;r0 0 0;").calls("chair 0 1 = 0, chair 0 2 = -9, chair 2 0 = 0, chair 2 1 = -9");
        Script.car("19 the last seat", "r0 0 0;r8 0 0;r9 0 0;").calls("chair 0 2 = 9");
    }

    private static void saw() {
        Script.car("20", FOUR).calls("saw 0 0 = -1, saw 0 4 = -1, saw 4 0 = -1, saw -1 0 = -1, saw 0 -1 = -1, count 2 = 0",
            "saw 0 1 = 1, saw 0 1 = 2, saw 1 0 = 3, thinks 3 0 = 1, rings 0 = 3, saw 3 0 = -1, saw 0 3 = -1, saw 0 2 = 4",
            "saw 2 0 = 5, saw 2 1 = 6, saw 2 1 = -3, saw 2 2 = -1, saw 3 0 = -1, count 2 = 6, now 2 = 1, latest 0 1 = 0",
            "count 3 = 2");
        Script.fresh("20 nobody").calls("saw 0 1 = -1");
    }

    private static void forget() {
        Script.car("21", FOUR).calls("forget = 0, saw 0 1 = 1, saw 0 2 = 2, laws 0 = 0, forget = 2, count 2 = 0, laws 0 = 7",
            "forget = 0, saw 0 1 = 1, laws 0 = 7").times(5, "saw 1 0").calls("saw 1 0 = -3, forget = 6, saw 1 0 = 1");
    }

    private static void laws() {
        Script.car("22", FOUR).calls("laws 0 = 7, laws 3 = 7, laws 4 = -1, laws -1 = -1, laws 2147483647 = -1",
            "saw 2 1 = 1, laws 2 = 3, laws 0 = 7, laws 1 = 7, saw 1 2 = 2, laws 1 = 6, saw 3 0 = 3, laws 3 = 4, laws 2 = 3",
            "saw 3 1 = 4, laws 3 = 0, saw 0 3 = 5, laws 0 = 0, rider 0 2 = 0");
        Script.car("22 by seats alone", "r5 0 2;r0 9 2;r9 1 2;r6 0 2;").calls("saw 0 3 = 1, laws 0 = 1");
        Script.fresh("22 nobody").calls("laws 0 = -1");
    }

    private static void lawsAsNow() {
        Script.car("22 as now", FOUR).calls("saw 0 1 = 1, laws 0 = 7, seats 1 9 = 3, laws 0 = 6, seats 0 5 = 0, laws 0 = 6",
            "seats 0 8 = 5, laws 0 = 7, thinks 1 2 = 1, rings 2 = 1, laws 0 = 0, laws 1 = 7, boards 1 = 4, laws 0 = 7",
            "thinks 0 3 = 2, rings 3 = 0, laws 0 = 0, likely = 27, undo = 7, laws 0 = 7, likely = 81");
    }

    private static void likely() {
        Script.car("23", FOUR).calls("likely = 81, saw 2 1 = 1, likely = 54, saw 3 0 = 2, likely = 18, saw 3 1 = 3, likely = 0",
            "thinks 3 0 = 1, rings 0 = 3, likely = 18, forget = 3, likely = 27, thinks 1 0 = 2, thinks 2 0 = 3",
            "rings 0 = 2, rings 0 = 1, likely = 3, saw 0 1 = -1");
        Script.car("23 six", "r0 0 0;r0 0 0;r0 0 0;r0 0 0;r0 0 0;r0 0 0;").calls("likely = 729");
    }
}
