/** Promises 7 to 14: what is done, and undone. */
public final class DoneTest {
    private static final String FIVE = "r0 3 0;r2 9 1;r3 5 2;r7 9 0;r7 1 2;l3;";
    private static final String THREE = "r0 0 2;r4 1 2;r9 2 2;";

    public static void main(String[] args) {
        rides();
        thinks();
        rings();
        ringsNobody();
        twice();
        seats();
        boards();
        undoEach();
        undoDepth();
        undoLeaves();
        now();
        Script.finish("DoneTest");
    }

    private static void rides() {
        Script.car("7", FIVE).calls("rides = 1, now 0 = 1, now 2 = 5, count 3 = 1",
            "latest 0 1 = 1, latest 1 3 = 2, latest 2 3 = 3, latest 3 4 = 4, latest 4 0 = 5",
            "latest 1 0 = 0, latest 3 2 = 0, rides = 2, latest 0 1 = 6, latest 4 0 = 10, now 2 = 10");
        Script.car("7 of those aboard", FIVE).calls("rides = 1, rings 0 = 4, rides = 2, now 2 = 9",
            "latest 0 1 = 6, latest 1 3 = 7, latest 2 3 = 8, latest 3 2 = 9, latest 4 0 = 5");
        Script.car("7 alone", "r1 1 1;").calls("rides = 1, now 2 = 0, rings 0 = -9");
        Script.car("7 last", THREE).times(98, "rides").calls("now 0 = 98, rides = 99, rides = -2, now 0 = 99",
            "now 2 = 297, count 3 = 10, undo = 9, rides = 99, rides = -2");
        Script.fresh("7 nobody").times(99, "rides").calls("rides = -2, now 0 = 99, now 2 = 0");
    }

    private static void thinks() {
        Script.car("8", THREE).calls("thinks 0 1 = 1, thinks 1 0 = 2, thinks 0 1 = 3, now 2 = 3, latest 0 1 = 3",
            "thinks 0 0 = -1, thinks 3 0 = -1, thinks 0 3 = -1, thinks -1 0 = -1, thinks 0 -1 = -1, now 2 = 3",
            "count 3 = 3, rings 1 = 0, thinks 0 1 = -2, thinks 1 0 = -2, thinks 0 2 = -2, thinks 0 0 = -1",
            "thinks 0 7 = -1, now 2 = 3, count 3 = 4, thinks 1 2 = 4");
    }

    private static void rings() {
        Script.car("9", THREE).calls("thinks 1 0 = 1, thinks 2 0 = 2, thinks 1 2 = 3",
            "rings 0 = 2, rider 2 3 = 0, rider 2 4 = 0, now 1 = 3, now 3 = 0, rings 2 = -2, rings 0 = 1",
            "now 1 = 1, rings 0 = -9, now 3 = 1, rings 0 = -9, now 3 = 2, now 2 = 3, count 3 = 7",
            "rings 1 = -2, rings -1 = -1, rings 3 = -1, rings 2147483647 = -1, now 3 = 2, count 3 = 7");
        Script.car("9 thoughts of others", THREE).calls("thinks 0 1 = 1, rings 0 = -9, rings 2 = -9, rings 1 = 0");
        Script.car("9 where", THREE).calls("rides = 1, rides = 2, rides = 3, rings 0 = 2, rider 2 4 = 3",
            "rides = 4, rider 2 4 = 3, rings 0 = 1, rider 1 4 = 4");
        Script.car("9 latest counts", THREE).calls("thinks 1 0 = 1, thinks 2 0 = 2, thinks 1 0 = 3, rings 0 = 1");
    }

    private static void ringsNobody() {
        Script.car("9 lonely", "r0 0 0;").calls("rings 0 = -9, now 3 = 1, count 3 = 1, now 1 = 1, twice 0 = -9",
            "now 3 = 2, count 3 = 2, undo = 1, now 3 = 1, undo = 0, now 3 = 0");
        Script.fresh("9 nobody").calls("rings 0 = -1, twice 0 = -1, now 3 = 0");
    }

    private static void twice() {
        Script.car("10", THREE).calls("thinks 0 1 = 1, thinks 0 2 = 2, thinks 1 0 = 3, thinks 2 1 = 4",
            "twice 0 = 2, rider 2 4 = 0, now 1 = 3, twice 2 = -2, now 3 = 0, twice 0 = 1, now 1 = 1",
            "twice 0 = -9, now 3 = 1, count 3 = 7, twice 1 = -2, twice -1 = -1, twice 3 = -1, twice 6 = -1",
            "now 3 = 1, count 3 = 7");
        Script.car("10 latest counts", THREE).calls("thinks 0 1 = 1, thinks 0 2 = 2, thinks 0 1 = 3, twice 0 = 1");
        Script.car("10 his own thoughts", THREE).calls("thinks 1 0 = 1, twice 0 = -9, now 3 = 1, twice 1 = 0");
        Script.car("10 where", THREE).calls("rides = 1, rides = 2, twice 0 = 1, rider 1 4 = 2");
    }

    private static void seats() {
        Script.car("11", THREE).calls("seats 0 9 = 0, rider 0 0 = 9, seats 0 0 = 9, seats 1 0 = 4, rider 1 0 = 0",
            "seats 1 0 = -2, seats 1 10 = -1, seats 1 -1 = -1, seats 3 0 = -1, seats -1 0 = -1, count 3 = 3",
            "seats 1 2147483647 = -1, thinks 0 1 = 1, rings 1 = 0, seats 0 5 = -2, seats 0 0 = -2, seats 0 10 = -1",
            "seats 2 3 = 9, rider 2 0 = 3, boards 0 = 3, rider 0 0 = 0, seats 0 5 = 0");
        Script.car("11 thinks anew", "r0 0 0;r4 0 0;r9 0 0;").calls("rider 0 5 = 1, seats 0 8 = 0, rider 0 5 = 2",
            "seats 2 0 = 9, rider 0 5 = 1, rides = 1, latest 0 1 = 1, latest 1 0 = 2, latest 2 1 = 3");
    }

    private static void boards() {
        Script.car("12", THREE).calls("boards 0 = -2, boards 3 = -1, boards -1 = -1, boards -2147483648 = -1",
            "rides = 1, rings 0 = 2, rings 1 = 0, now 1 = 2, boards 1 = -2, boards 2 = 2, now 1 = 6",
            "rider 2 3 = 1, rider 2 4 = -9, latest 2 0 = 3, latest 1 2 = 2, boards 2 = -2, boards 0 = 3",
            "now 1 = 7, rings 0 = 2, now 3 = 0, count 3 = 6");
        Script.fresh("12 nobody").calls("boards 0 = -1");
    }

    private static void undoEach() {
        Script.car("13", THREE).calls("undo = -2, rides = 1, thinks 2 1 = 4, rings 1 = 2, boards 2 = 3, seats 0 7 = 0",
            "twice 2 = 1, thinks 0 2 = 5, twice 1 = -2, rides = 2, twice 0 = 2, rings 0 = -9, count 3 = 10, now 3 = 1",
            "undo = 9, now 3 = 0, undo = 8, now 1 = 5, rider 2 4 = -9, undo = 7, now 0 = 1, now 2 = 5",
            "latest 0 2 = 5, latest 2 0 = 3, undo = 6, now 2 = 4, latest 0 2 = 0, undo = 5, now 1 = 7, rider 1 4 = -9",
            "undo = 4, rider 0 0 = 0, undo = 3, now 1 = 3, rider 2 4 = 1, undo = 2, now 1 = 7, rider 2 4 = -9",
            "latest 2 1 = 4, undo = 1, latest 2 1 = 0, now 2 = 3, latest 0 1 = 1, undo = 0, now 2 = 0, latest 0 1 = 0");
        Script.car("13 ride", THREE).calls("rides = 1, undo = 0, now 0 = 0, now 2 = 0, latest 0 1 = 0, latest 2 0 = 0",
            "thinks 2 0 = 1, undo = 0, undo = -2");
    }

    private static void undoDepth() {
        Script.car("13 ten", THREE).times(10, "rides").calls("count 3 = 10, undo = 9, rides = 10")
            .times(5, "rides").calls("now 0 = 15, count 3 = 10, undo = 9, now 0 = 14, undo = 8, rides = 14, count 3 = 9",
                "undo = 8, now 0 = 13, undo = 7, undo = 6, undo = 5, undo = 4, undo = 3, undo = 2, undo = 1",
                "now 0 = 6, now 2 = 18, undo = 0, now 0 = 5, latest 0 1 = 13, undo = -2, now 0 = 5");
    }

    private static void undoLeaves() {
        Script.car("13 leaves", THREE).calls("rides = 1, saw 0 1 = 1, keep 0 = 1, mark 0 0 = 0, type 32 = 1, undo = 0",
            "count 2 = 1, trace = 1, count 4 = 1, back 0 = 1, now 0 = 1, undo = 0, now 0 = 0, forget = 1");
        Script.car("13 not refused ones", THREE).calls("thinks 0 0 = -1, seats 0 0 = -2, boards 0 = -2, rings 9 = -1",
            "twice -1 = -1, count 3 = 0, undo = -2");
    }

    private static void now() {
        Script.car("14", FIVE).calls("now 0 = 0, now 1 = 31, now 2 = 0, now 3 = 0, now 4 = 0, now -1 = -1, now 5 = -1",
            "now 2147483647 = -1, now -2147483648 = -1, rides = 1, now 4 = 0, rides = 2, now 4 = 0, rides = 3, now 4 = 1",
            "rides = 4, now 4 = 1, now 0 = 4, now 2 = 20, rings 0 = 4, now 1 = 15, rings 0 = -9, now 3 = 1, twice 4 = -2",
            "now 3 = 1, undo = 5, undo = 4, undo = 3, now 4 = 1, undo = 2, now 4 = 0");
        Script.car("14 line of one", "l1;").calls("now 4 = 0, rides = 1, now 4 = 1");
        Script.car("14 line not told", "r0 0 0;").times(8, "rides").calls("now 4 = 0, rides = 9, now 4 = 1");
    }
}
