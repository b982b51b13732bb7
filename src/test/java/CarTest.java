/** Promises 1 to 6 and 27: the car and its text. */
public final class CarTest {
    private static final String FIVE = "r0 3 0;r2 9 1;r3 5 2;r7 9 0;r7 1 2;l3;";

    public static void main(String[] args) {
        newObject();
        type();
        clear();
        carReads();
        carFaults();
        carLeavesAllAtFault();
        carStartsAnew();
        rider();
        riderOfThoughts();
        riderNotAboard();
        latest();
        count();
        Script.finish("CarTest");
    }

    private static void newObject() {
        Script.fresh("1").calls(
            "count 0 = 0, count 1 = 9, count 2 = 0, count 3 = 0, count 4 = 0",
            "now 0 = 0, now 1 = 0, now 2 = 0, now 3 = 0, now 4 = 0",
            "trace = 0, undo = -2, back 0 = -2, back 1 = -2, clear = 0, forget = 0, likely = 1",
            "rider 0 0 = -1, laws 0 = -1, circle 0 0 = -1, mark 0 0 = -1000000",
            "row 0 -1 = 1, row 0 0 = -9, row 1 -1 = -1, soon 0 = 0, soon 1 = -1",
            "rides = 1, now 0 = 1, now 2 = 0, count 3 = 1, keep 0 = 1, undo = 0, back 0 = 1, undo = 0");
    }

    private static void type() {
        Script.fresh("2").calls("type 0 = 1, type 255 = 2, type 256 = -1, type -1 = -1, count 4 = 2",
            "type 2147483647 = -1, type -2147483648 = -1, type 32 = 3");
        Script.fresh("2 full").times(119, "type 32").calls("type 32 = 120, type 32 = -3, type 256 = -1",
            "type -1 = -1, count 4 = 120, car = 0, count 4 = 0, type 59 = 1");
    }

    private static void clear() {
        Script.fresh("3").type("r0 0 0;").calls("clear = 7, count 4 = 0, clear = 0, car = 0, count 0 = 0");
        Script.fresh("3 full").times(130, "type 114").calls("clear = 120, type 114 = 1");
    }

    private static void carReads() {
        reads("", 0, 0, 9);
        reads("   ", 0, 0, 9);
        reads("l1;", 1, 0, 1);
        reads("l20;", 1, 0, 20);
        reads("l 9 ;", 1, 0, 9);
        reads("  r  9  9  2  ;  ", 1, 1, 9);
        reads("r0 0 0;r9 9 2;l7;r1 1 1;", 4, 3, 7);
        reads("r 0 0 0;r 0 0 0;r 0 0 0;r 0 0 0;r 0 0 0;r 0 0 0;l 12;", 7, 6, 12);
        reads("l 12;r 0 0 0;r 0 0 0;r 0 0 0;r 0 0 0;r 0 0 0;r 0 0 0;", 7, 6, 12);
        Script.car("4 told", "r9 0 2;r0 9 1;").calls(
            "rider 0 0 = 9, rider 0 1 = 0, rider 0 2 = 2, rider 1 0 = 0, rider 1 1 = 9, rider 1 2 = 1",
            "now 1 = 3, count 1 = 9, count 4 = 0");
        String blanks = " ".repeat(113);
        reads(blanks + "r0 0 0;", 1, 1, 9);
        reads("r0 0 0;" + blanks, 1, 1, 9);
    }

    private static void reads(String text, int items, int riders, int line) {
        Script.fresh("4 of '" + text + "'").type(text).calls("car = " + items,
            "count 0 = " + riders + ", count 1 = " + line + ", count 4 = 0, now 1 = " + ((1 << riders) - 1));
    }

    private static void carFaults() {
        fault("x;", 0);
        fault("  x;", 2);
        fault("rr0 0 0;", 0);
        fault("rl", 0);
        fault("lr1;", 0);
        fault("R0 0 0;", 0);
        fault("0", 0);
        fault(";", 0);
        fault(" ;", 1);
        fault("\t", 0);
        fault("\u0000", 0);
        fault("`0 0 0;", 0);
        fault("{0 0 0;", 0);
        fault("r/", 1);
        fault("r:", 1);
        fault("\u00e9", 0);
        fault("r0 0 0;\n", 7);
        fault("r", 1);
        fault("r  ", 3);
        fault("r0 ", 3);
        fault("r0 0", 4);
        fault("r0 0 0 ", 7);
        fault("l", 1);
        fault("l5", 2);
        fault("r;", 1);
        fault("r0;", 2);
        fault("r0 0;", 4);
        fault("r0 0 0 0;", 7);
        fault("r0 0 0r0 0 0;", 6);
        fault("r0 0 0;;", 7);
        fault("rx", 0);
        fault("ra", 0);
        fault("rz", 0);
        fault("az", 0);
        fault("r x", 2);
        fault("r0 0 l;", 5);
        fault("r10 0 0;", 1);
        fault("r0 10 0;", 3);
        fault("r0 0 3;", 5);
        fault("r99 0 0;", 1);
        fault("r00 0 0;", 1);
        fault("r0 01 0;", 3);
        fault("r0 0 02;", 5);
        fault("r0  100 0;", 4);
        fault("r4294967296 0 0;", 1);
        fault("r0 0 99999999999999999999999999999999;", 5);
        fault("00", 0);
        fault("l0;", 1);
        fault("l21;", 1);
        fault("l09;", 1);
        fault("l 100;", 2);
        fault("l1 1;", 3);
        fault("l;", 1);
        fault("l9;l9;", 3);
        fault("l9;r0 0 0; l", 11);
        fault("l9;l", 3);
        String six = "r0 0 0;".repeat(6);
        fault(six + "r0 0 0;", 42);
        fault(six + " r", 43);
        fault(six + "l9;r", 45);
        fault("x@", 0);
        fault("r@x", 1);
        fault("1".repeat(120), 0);
        fault("a".repeat(120), 0);
        fault("r0 0 0;" + " ".repeat(112) + "r", 120);
    }

    private static void fault(String text, int place) {
        Script.fault("4 fault", text, place);
    }

    private static void carLeavesAllAtFault() {
        Script.car("4 left", "r0 3 0;r2 9 1;l3;").calls("rides = 1, saw 0 1 = 1, keep 1 = 1, mark 5 0 = 1")
            .type("r5 5 2;r9 9 2;r4 4 2;l7;x").calls("car = -34, count 4 = 25",
                "count 0 = 2, count 1 = 3, count 2 = 1, count 3 = 1, now 0 = 1, now 1 = 3, now 2 = 2",
                "rider 0 0 = 0, rider 1 1 = 9, rider 1 2 = 1, latest 0 1 = 1, back 1 = 1, trace = 100001",
                "clear = 25, car = 0, count 0 = 0");
    }

    private static void carStartsAnew() {
        Script.car("4 anew", "r0 3 0;r2 9 1;l3;").calls("rings 0 = -9, rides = 1, rings 1 = 0, boards 0 = 2",
            "seats 1 5 = 2, saw 0 1 = 1, keep 0 = 1, keep 1 = 1, mark 0 0 = 0, rings 0 = 1")
            .type("r8 1 1;r2 2 2;r4 0 0;").calls("car = 3, count 0 = 3, count 1 = 9, count 2 = 0, count 3 = 0",
                "count 4 = 0, now 0 = 0, now 1 = 7, now 2 = 0, now 3 = 0, now 4 = 0, back 0 = -2, back 1 = -2",
                "undo = -2, trace = 1, latest 0 1 = 0, latest 1 0 = 0, rider 0 0 = 8, rider 1 0 = 2",
                "rider 1 3 = 1, rider 1 4 = -9, laws 0 = 7, thinks 0 1 = 1");
        Script.car("4 all anew", "r0 0 2;r0 0 2;r0 0 2;r0 0 2;r0 0 2;r0 0 2;").calls("rides = 1, thinks 5 4 = 7")
            .type("r0 0 2;r0 0 2;r0 0 2;r0 0 2;r0 0 2;r0 0 2;").calls("car = 6, latest 0 1 = 0, latest 1 2 = 0",
                "latest 2 3 = 0, latest 3 4 = 0, latest 4 5 = 0, latest 5 0 = 0, latest 5 4 = 0, rider 4 6 = -9");
        Script.car("4 nobody anew", "r0 3 0;r2 9 1;l3;").calls("rides = 1, car = 0, count 0 = 0, count 1 = 9",
            "now 0 = 0, now 1 = 0, rider 0 0 = -1, rider 1 0 = -1, undo = -2");
    }

    private static void rider() {
        Script.car("5", FIVE).calls(
            "rider 0 0 = 0, rider 1 0 = 2, rider 2 0 = 3, rider 3 0 = 7, rider 4 0 = 7",
            "rider 0 1 = 3, rider 1 1 = 9, rider 2 1 = 5, rider 3 1 = 9, rider 4 1 = 1",
            "rider 0 2 = 0, rider 1 2 = 1, rider 2 2 = 2, rider 3 2 = 0, rider 4 2 = 2",
            "rider 0 3 = 1, rider 4 3 = 1, rider 0 4 = -9, rider 4 4 = -9",
            "rider 0 5 = 1, rider 1 5 = 3, rider 2 5 = 3, rider 3 5 = 4, rider 4 5 = 0",
            "rider -1 0 = -1, rider 5 0 = -1, rider 0 -1 = -1, rider 0 8 = -1, rider 6 7 = -1",
            "rider 2147483647 0 = -1, rider -2147483648 0 = -1, rider 0 2147483647 = -1");
        Script.car("5 like seats", "r4 0 0;r5 0 0;r3 0 0;r4 0 0;").calls(
            "rider 0 5 = 3, rider 1 5 = 0, rider 2 5 = 0, rider 3 5 = 0");
        Script.car("5 as near on both sides", "r4 0 0;r5 0 0;r3 0 0;").calls("rider 0 5 = 1");
        Script.car("5 like looks", "r0 7 1;r0 7 1;r0 7 1;r0 2 1;").calls(
            "rider 0 5 = 1, rider 1 5 = 0, rider 2 5 = 0, rider 3 5 = 0");
        Script.car("5 no looks", "r0 0 1;r0 0 1;").calls("rider 0 5 = 1, rider 1 5 = 0");
        Script.car("5 next", "r0 0 2;r0 0 2;r0 0 2;").calls("rider 0 5 = 1, rider 1 5 = 2, rider 2 5 = 0",
            "thinks 0 1 = 1, rings 1 = 0, rider 2 5 = 1, rider 1 5 = 2, rider 0 5 = -9");
        Script.car("5 alone", "r0 0 0;").calls("rider 0 5 = -9, rider 0 6 = -9, rider 0 7 = -9");
        Script.car("5 alone by 1", "r0 0 1;").calls("rider 0 5 = -9");
        Script.car("5 alone by 2", "r0 0 2;").calls("rider 0 5 = -9");
    }

    private static void riderOfThoughts() {
        Script.car("5 thoughts", FIVE).calls("rider 0 6 = -9, rider 0 7 = -9",
            "thinks 1 0 = 1, rider 0 6 = 1, rider 0 7 = -9, rider 1 6 = -9, rider 1 7 = 0",
            "thinks 2 0 = 2, rider 0 6 = 2, thinks 1 3 = 3, rider 1 7 = 3, rider 0 6 = 2, rider 3 6 = 1",
            "thinks 1 0 = 4, rider 0 6 = 1, rider 1 7 = 0",
            "now 3 = 0, now 1 = 31, count 3 = 4");
    }

    private static void riderNotAboard() {
        Script.car("5 down", FIVE).calls("rides = 1, rides = 2, thinks 0 1 = 11, thinks 1 0 = 12",
            "rings 1 = 0, rider 0 3 = 0, rider 0 4 = 2, rider 0 5 = -9, rider 0 6 = -9, rider 0 7 = -9",
            "rider 0 0 = 0, rider 0 1 = 3, rider 0 2 = 0, rider 1 6 = -9, rider 1 7 = 3, rider 4 5 = 1",
            "rides = 3, rider 0 4 = 2, boards 0 = 5, rider 0 3 = 1, rider 0 4 = -9, rider 0 6 = 1, rider 0 7 = 1");
    }

    private static void latest() {
        Script.car("6", FIVE).calls("latest 0 1 = 0, latest 0 0 = -1, latest 4 4 = -1, latest 5 0 = -1",
            "latest 0 5 = -1, latest -1 0 = -1, latest 0 -1 = -1, latest 2147483647 -2147483648 = -1",
            "thinks 0 1 = 1, thinks 1 0 = 2, thinks 0 1 = 3, latest 0 1 = 3, latest 1 0 = 2, latest 0 2 = 0",
            "rings 0 = 1, latest 0 1 = 3, latest 1 0 = 2, latest 1 2 = 0");
        Script.fresh("6 nobody").calls("latest 0 1 = -1");
    }

    private static void count() {
        Script.car("27", FIVE).calls("count 0 = 5, count 1 = 3, count 2 = 0, count 3 = 0, count 4 = 0",
            "count -1 = -1, count 5 = -1, count 2147483647 = -1, count -2147483648 = -1",
            "saw 0 1 = 1, saw 0 1 = 2, count 2 = 2, rides = 1, count 3 = 1, type 7 = 1, count 4 = 1",
            "thinks 0 1 = 6, rings 1 = 0, count 0 = 5, count 1 = 3, count 3 = 3");
    }
}
