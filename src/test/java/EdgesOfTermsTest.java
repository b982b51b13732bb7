/** Each sentence of the document's "Terms" that names an edge, by its own words, has its own test. */
public final class EdgesOfTermsTest {
    private static final String ONE = "r5 5 2;";
    private static final String THREE = "r0 0 2;r4 1 2;r9 2 2;";
    private static final String FOUR = "r0 0 2;r3 0 2;r6 0 2;r9 0 2;";
    private static final String SIX = "r5 5 2;r5 5 2;r5 5 2;r5 5 2;r5 5 2;r5 5 2;";

    public static void main(String[] args) {
        howMany();
        whatNumbersMayBe();
        text();
        blanks();
        faultOfEachToken();
        faultOfTheFirst();
        faultOfBytes();
        faultAtTheEnd();
        stop();
        latest();
        nearest();
        greatestLooks();
        nextNumber();
        alone();
        ridden();
        rung();
        rungTwice();
        seatedAndBack();
        undone();
        rings();
        ringers();
        soon();
        circle();
        chair();
        seen();
        likely();
        odds();
        kinds();
        imagesKeepNow();
        imagesKeepNothingElse();
        readAnew();
        refusedInOrder();
        Script.finish("EdgesOfTermsTest");
    }

    // ---- 1 RIDERS

    private static void howMany() {
        Script.car("RIDERS 0 ..", "").calls("count 0 = 0, now 1 = 0, rider 0 0 = -1, latest 0 1 = -1");
        Script.car("RIDERS .. (one)", ONE).calls("count 0 = 1, now 1 = 1, rider 0 0 = 5, rider 1 0 = -1");
        Script.car("(6 of them at most)", SIX).calls("count 0 = 6, now 1 = 63, rider 5 0 = 5, rider 6 0 = -1");
        Script.fault("a seventh rider", SIX + "r0 0 0;", 42);
        Script.fault("a seventh rider, told no further", SIX + " r", 43);
        Script.fault("a seventh rider behind the line", SIX + "l5;r0 0 0;", 45);
        Script.car("six riders and the line", SIX + "l5;").calls("count 0 = 6, count 1 = 5");
        Script.car("six riders ahead of and behind the line", "r0 0 0;l5;" + SIX.substring(7)).calls("count 0 = 6");
    }

    private static void whatNumbersMayBe() {
        Script.car("SEAT (0 .. 9; several may have one)", "r0 5 0;r9 5 0;r9 5 0;").calls(
            "rider 0 0 = 0, rider 1 0 = 9, rider 2 0 = 9");
        Script.fault("SEAT 10", "r10 5 0;", 1);
        Script.fault("SEAT -1", "r-1 5 0;", 1);
        Script.car("LOOKS (0 .. 9)", "r5 0 0;r5 9 0;").calls("rider 0 1 = 0, rider 1 1 = 9");
        Script.fault("LOOKS 10", "r5 10 0;", 3);
        Script.fault("LOOKS -1", "r5 -1 0;", 3);
        Script.car("LAW (0 .. 2)", "r5 5 0;r5 5 1;r5 5 2;").calls("rider 0 2 = 0, rider 1 2 = 1, rider 2 2 = 2");
        Script.fault("LAW 3", "r5 5 3;", 5);
        Script.fault("LAW -1", "r5 5 -1;", 5);
        Script.car("STOPS 1 ..", "l1;").calls("count 1 = 1");
        Script.car("STOPS .. 20", "l20;").calls("count 1 = 20");
        Script.fault("STOPS 0", "l0;", 1);
        Script.fault("STOPS 21", "l21;", 1);
        Script.fault("STOPS 99", "l99;", 1);
        Script.fresh("9 at first").calls("count 1 = 9");
        Script.car("9, if not told", ONE).calls("count 1 = 9");
        Script.car("9 again, if not told anew", "l4;").calls("count 1 = 4").type(ONE).calls("car = 1, count 1 = 9");
        Script.fault("l (line; once at most)", "l5;l5;", 3);
        Script.fault("l again behind a rider", "l5;" + ONE + "l6;", 10);
    }

    private static void text() {
        Script.fresh("120 bytes at most").times(119, "type 32").calls("count 4 = 119, type 32 = 120, type 32 = -3",
            "count 4 = 120, car = 0, count 4 = 0, type 32 = 1");
        Script.fresh("120 bytes, read").type(SIX + "l7;" + " ".repeat(75)).calls("count 4 = 120, car = 7, count 0 = 6");
        Script.fresh("the 121st byte is not there").type(" ".repeat(113) + ONE + "x").calls("count 4 = 120, car = 1");
        Script.fresh("ITEMS (none, too)").calls("car = 0, count 0 = 0");
        Script.fresh("ITEMS (none, of blanks alone)").type("   ").calls("car = 0, count 4 = 0");
    }

    private static void blanks() {
        Script.car("blanks ahead of TOKENS", "   r0 1 2;").calls("rider 0 0 = 0, rider 0 1 = 1, rider 0 2 = 2");
        Script.car("blanks between TOKENS", "r   0   1   2   ;   l   3   ;").calls("rider 0 1 = 1, rider 0 2 = 2",
            "count 1 = 3");
        Script.car("blanks behind TOKENS", "r0 1 2;   ").calls("rider 0 2 = 2");
        Script.car("none needed where TOKENS end without", "l3;r0 1 2;r3 4 1;").calls("count 0 = 2, rider 1 0 = 3");
        Script.fault("needed between NUMBERS: 12 is one", "r12 0;", 1);
        Script.fault("needed between NUMBERS: 012 is one", "r012;", 1);
        Script.fault("needed between letters: rr are one TOKEN", "rr0 1 2;", 0);
        Script.fault("a blank ends a NUMBER", "l1 2;", 3);
        Script.fault("a blank ends letters", "r r", 2);
        Script.fault("a tab is no blank", "\tr0 1 2;", 0);
        Script.fault("the end of a line is no blank", "r0 1 2;\n", 7);
        Script.fault("byte 160 is no blank", "r0 1 2;\u00a0", 7);
        Script.fault("byte 0 is no blank", "r0 1 2;\u0000", 7);
    }

    /** Ahead of each TOKEN, all that can't stand there. */
    private static void faultOfEachToken() {
        String[] ofNoNumber = {"x", "r", "l", "rl", ";", "@", "-", "100", "00", "01", "4294967297"};
        cantStand("", "x", "rl", "ra", "lz", "a", "z", "0", "7", "99", "100", "01", ";", "@");
        cantStand("r0 1 2;", "x", "rr", "0", "100", "00", ";", "@");
        cantStand("l5;", "l", "x", "0", "100", "00", ";", "@");
        cantStand("r ", ofNoNumber);
        cantStand("r ", "10", "99");
        cantStand("r0 ", ofNoNumber);
        cantStand("r0 ", "10", "99");
        cantStand("r0 1 ", ofNoNumber);
        cantStand("r0 1 ", "3", "9", "10", "99");
        cantStand("r0 1 2 ", "x", "r", "l", "0", "7", "99", "100", "00", "@", ",");
        cantStand("l ", ofNoNumber);
        cantStand("l ", "0", "21", "99");
        cantStand("l5 ", "x", "r", "l", "0", "7", "99", "100", "00", "@", ",");
    }

    private static void cantStand(String ahead, String... tokens) {
        for (String token : tokens) {
            Script.fault("that can't stand there", ahead + token, ahead.length());
            Script.fault("that can't stand there, blanks ahead", ahead + "  " + token + " ", ahead.length() + 2);
            Script.fault("that can't stand there, more behind", ahead + token + " 0;", ahead.length());
        }
    }

    private static void faultOfTheFirst() {
        Script.fault("the first TOKEN, though @ begins none later", "x @", 0);
        Script.fault("the first TOKEN, though 100 is above 99 later", "r10 100 0;", 1);
        Script.fault("the first TOKEN, though 01 has a 0 ahead later", "; 01", 0);
        Script.fault("the first TOKEN, though @ is ahead", "@x", 0);
        Script.fault("the first TOKEN, though it ends too early", "x r", 0);
        Script.fault("the first byte of letters", "  notanitem 0;", 2);
        Script.fault("the first byte of a NUMBER", "r 0 1234 0;", 4);
        Script.fault("a NUMBER of 99 that stands, then one too much", "l20 99;", 4);
    }

    private static void faultOfBytes() {
        for (int c = 0; c <= 255; c++) {
            boolean begins = c == ' ' || c == ';' || c >= '0' && c <= '9' || c >= 'a' && c <= 'z';
            if (!begins) {
                Script.fault("a byte that begins none: " + c, "r0 1 2;" + (char) c, 7);
                Script.fault("a byte that begins none ends letters: " + c, "r" + (char) c, 1);
                Script.fault("a byte that begins none ends a NUMBER: " + c, "r0 1 2" + (char) c, 6);
            }
        }
        Script.fault("a NUMBER above 99", "r100 0 0;", 1);
        Script.fault("a NUMBER beyond an int", "r4294967296 0 0;", 1);
        Script.fault("a NUMBER beyond a long", "r18446744073709551616 0 0;", 1);
        Script.fault("a NUMBER of 120 digits", "1".repeat(120), 0);
        Script.fault("a NUMBER with a 0 ahead", "r00 0 0;", 1);
        Script.fault("a NUMBER with a 0 ahead that could stand", "l09;", 1);
        Script.car("0 alone has none ahead of others", "r0 0 0;").calls("rider 0 0 = 0");
        Script.car("10 has its 0 behind", "l10;").calls("count 1 = 10");
    }

    private static void faultAtTheEnd() {
        for (String text : new String[] {"r", "r0", "r0 1", "r0 1 2", "l", "l5", "r0 1 2;r", "r0 1 2;l", "l5;r0 1 2"}) {
            Script.fault("the text's length, if it ends too early", text, text.length());
            Script.fault("the text's length, blanks too", text + "   ", text.length() + 3);
        }
        Script.fault("the text's length, of 120", "l5;" + " ".repeat(116) + "r", 120);
        Script.car("a left out end alone is too early", "r0 1 2;").calls("count 0 = 1");
    }

    // ---- 2 THE STOP

    private static void stop() {
        Script.car("THE STOP is 0 at first", THREE).calls("now 0 = 0, rides = 1, now 0 = 1");
        Script.car("(99 at most)", THREE).times(98, "rides").calls("now 0 = 98, rides = 99, rides = -2, now 0 = 99");
        Script.car("beyond the LINE at LINE and more", THREE + "l3;").calls("rides = 1, rides = 2, now 4 = 0",
            "rides = 3, now 4 = 1, rides = 4, now 4 = 1, undo = 3, now 4 = 1, undo = 2, now 4 = 0");
        Script.car("beyond a LINE of 1", "l1;").calls("now 4 = 0, rides = 1, now 4 = 1");
        Script.car("beyond a LINE of 20", "l20;").times(19, "rides").calls("now 4 = 0, rides = 20, now 4 = 1")
            .times(79, "rides").calls("now 0 = 99, now 4 = 1");
        Script.fresh("beyond a LINE not told").times(8, "rides").calls("now 4 = 0, rides = 9, now 4 = 1");
        Script.car("All are ABOARD at first", SIX).calls("now 1 = 63, rider 0 3 = 1, rider 5 3 = 1, rider 5 4 = -9");
    }

    private static void latest() {
        Script.car("LATEST (0: never)", THREE).calls("latest 0 1 = 0, latest 2 1 = 0, thinks 0 1 = 1, latest 1 0 = 0");
        Script.car("as how many-th it came latest", THREE).calls("thinks 0 1 = 1, latest 0 1 = 1, thinks 2 0 = 2",
            "thinks 0 1 = 3, latest 0 1 = 3, latest 2 0 = 2, thinks 0 2 = 4, latest 0 1 = 3");
    }

    private static void nearest() {
        Script.car("0: the nearest SEAT", "r0 0 0;r9 0 0;r5 0 0;").calls("rider 0 5 = 2, rider 1 5 = 2, rider 2 5 = 1");
        Script.car("0: of like ones the lower, above ahead", "r4 0 0;r6 0 0;r2 0 0;").calls("rider 0 5 = 1");
        Script.car("0: of like ones the lower, below ahead", "r4 0 0;r2 0 0;r6 0 0;").calls("rider 0 5 = 1");
        Script.car("0: the same SEAT is nearest", "r4 0 0;r5 0 0;r4 0 0;r4 0 0;").calls("rider 0 5 = 2, rider 3 5 = 0");
        Script.car("0: the farthest, if there is no other", "r0 0 0;r9 0 0;").calls("rider 0 5 = 1, rider 1 5 = 0");
        Script.car("0: of others ABOARD", "r4 0 0;r4 0 0;r9 0 0;").calls("rider 0 5 = 1, thinks 1 2 = 1, rings 2 = 1",
            "rider 0 5 = 2, rider 2 5 = 0, rider 1 5 = -9, boards 1 = 3, rider 0 5 = 1");
    }

    private static void greatestLooks() {
        Script.car("1: the greatest LOOKS, not his own", "r0 9 1;r0 0 1;r0 8 1;").calls(
            "rider 0 5 = 2, rider 1 5 = 0, rider 2 5 = 0");
        Script.car("1: of like ones the lower", "r0 7 1;r0 7 1;r0 7 1;").calls(
            "rider 0 5 = 1, rider 1 5 = 0, rider 2 5 = 0");
        Script.car("1: LOOKS of 0 are some, too", "r0 9 1;r0 0 1;r0 0 1;").calls("rider 0 5 = 1, rider 2 5 = 0");
        Script.car("1: of others ABOARD", "r0 1 1;r0 9 1;r0 2 1;").calls("rider 0 5 = 1, thinks 1 0 = 1, rings 0 = 1",
            "rider 0 5 = 2, rider 2 5 = 0, rider 1 5 = -9, boards 1 = 3, rider 2 5 = 1");
    }

    private static void nextNumber() {
        Script.car("2: round again from 0", SIX).calls("rider 0 5 = 1, rider 4 5 = 5, rider 5 5 = 0");
        Script.car("2: round again, those down left out", SIX).calls("thinks 0 5 = 1, rings 5 = 0, rider 5 5 = 1",
            "thinks 1 5 = 2, rings 5 = 1, rider 5 5 = 2, thinks 3 5 = 3, rings 5 = 3, rider 2 5 = 4, rider 0 5 = -9",
            "boards 0 = 4, rider 5 5 = 0, rider 0 5 = 2");
        Script.car("2: two think of one another", "r0 0 2;r0 0 2;").calls("rider 0 5 = 1, rider 1 5 = 0");
    }

    private static void alone() {
        for (int law = 0; law <= 2; law++) {
            Script.car("NONE (alone) by " + law, "r5 5 " + law + ";").calls("rider 0 5 = -9, rides = 1, now 2 = 0");
            Script.car("NONE (alone, the other one is down) by " + law, "r5 5 " + law + ";r5 5 " + law + ";").calls(
                "thinks 1 0 = 1, rings 0 = 1, rider 0 5 = -9, rides = 1, now 2 = 1, boards 1 = 2, rider 0 5 = 1");
        }
    }

    private static void ridden() {
        Script.car("each ABOARD, by numbers, thinks", THREE).calls("rides = 1, latest 0 1 = 1, latest 1 2 = 2",
            "latest 2 0 = 3, now 2 = 3, latest 0 2 = 0");
        Script.car("each ABOARD, not one down", THREE).calls("rides = 1, rings 1 = 0, rides = 2, now 2 = 5",
            "latest 0 1 = 1, latest 1 2 = 4, latest 2 1 = 5");
        Script.car("nobody to think of", ONE).calls("rides = 1, rides = 2, now 2 = 0, count 3 = 2");
        Script.fresh("nobody who thinks").calls("rides = 1, now 2 = 0, count 3 = 1");
    }

    private static void rung() {
        Script.car("RUNG: the greatest LATEST of him", THREE).calls("thinks 1 0 = 1, thinks 2 0 = 2, thinks 1 0 = 3",
            "thinks 2 1 = 4, rings 0 = 1");
        Script.car("RUNG: of the others ABOARD", THREE).calls("thinks 1 0 = 1, thinks 2 0 = 2, rings 0 = 2, rings 0 = 1");
        Script.car("RUNG: who ever thought of him", THREE).calls("thinks 1 0 = 1").times(9, "rides").calls(
            "rings 0 = 2, rings 0 = 1, rings 0 = -9");
        Script.car("nobody, if there is none (LONELY: counted)", THREE).calls("thinks 0 1 = 1, rings 0 = -9, now 3 = 1",
            "rings 2 = -9, now 3 = 2, now 1 = 7, rings 1 = 0, now 3 = 2");
        Script.car("LONELY, those who thought of him are down", THREE).calls("thinks 1 0 = 1, rings 0 = 1, rings 0 = -9",
            "now 3 = 1");
        Script.car("LONELY, alone", ONE).calls("rings 0 = -9, now 3 = 1, now 1 = 1");
    }

    private static void rungTwice() {
        Script.car("RUNG TWICE: of whom he thought latest", THREE).calls("thinks 0 1 = 1, thinks 0 2 = 2, thinks 0 1 = 3",
            "thinks 2 0 = 4, twice 0 = 1, twice 0 = 2");
        Script.car("RUNG TWICE: of whom he ever thought, ABOARD", THREE).calls("thinks 0 2 = 1, thinks 0 1 = 2",
            "twice 0 = 1, thinks 0 2 = 3, twice 0 = 2, twice 0 = -9");
        Script.car("nobody likewise (LONELY: counted, too)", THREE).calls("thinks 1 0 = 1, twice 0 = -9, now 3 = 1",
            "rings 2 = -9, now 3 = 2, twice 2 = -9, now 3 = 3, now 1 = 7");
        Script.car("LONELY twice, alone", ONE).calls("twice 0 = -9, now 3 = 1, now 1 = 1");
    }

    private static void seatedAndBack() {
        Script.car("SEATED: another SEAT", THREE).calls("seats 0 0 = -2, seats 0 9 = 0, rider 0 0 = 9, seats 0 9 = -2",
            "seats 0 0 = 9");
        Script.car("SEATED: several may have one", THREE).calls("seats 0 4 = 0, seats 2 4 = 9, rider 1 0 = 4, rider 2 0 = 4");
        Script.car("BACK (his LATEST stays)", THREE).calls("thinks 1 0 = 1, thinks 1 2 = 2, rings 0 = 1, latest 1 0 = 1",
            "latest 1 2 = 2, boards 1 = 3, latest 1 0 = 1, latest 1 2 = 2, rings 2 = 1");
        Script.car("BACK (others' of him, too)", THREE).calls("thinks 2 1 = 1, thinks 1 0 = 2, rings 0 = 1, latest 2 1 = 1",
            "boards 1 = 3, latest 2 1 = 1, rings 1 = 2");
        Script.car("BACK (not as the thought that came latest)", THREE).calls("thinks 1 0 = 1, thinks 2 0 = 2, rings 0 = 2",
            "rings 0 = 1, boards 1 = 2, boards 2 = 3, rings 0 = 2, now 2 = 2");
        Script.car("BACK (his SEAT stays)", THREE).calls("seats 1 7 = 4, thinks 1 0 = 1, rings 0 = 1, boards 1 = 3",
            "rider 1 0 = 7");
    }

    private static void undone() {
        Script.car("UNDONE: RIDDEN", THREE).calls("thinks 1 0 = 1, rides = 1, undo = 1, now 0 = 0, now 2 = 1",
            "latest 0 1 = 0");
        Script.car("UNDONE: THOUGHT", THREE).calls("thinks 1 0 = 1, thinks 0 1 = 2, thinks 1 0 = 3, undo = 2, latest 1 0 = 1",
            "now 2 = 2, thinks 1 2 = 3");
        Script.car("UNDONE: RUNG", THREE).calls("thinks 1 0 = 1, rings 0 = 1, undo = 1, now 1 = 7, rider 1 4 = -9",
            "rider 1 3 = 1");
        Script.car("UNDONE: RUNG, LONELY", THREE).calls("rings 0 = -9, rings 0 = -9, undo = 1, now 3 = 1, undo = 0",
            "now 3 = 0");
        Script.car("UNDONE: RUNG TWICE", THREE).calls("thinks 0 1 = 1, twice 0 = 1, undo = 1, now 1 = 7, rider 1 4 = -9");
        Script.car("UNDONE: RUNG TWICE, LONELY", THREE).calls("twice 0 = -9, undo = 0, now 3 = 0");
        Script.car("UNDONE: SEATED", THREE).calls("seats 0 9 = 0, seats 0 3 = 9, undo = 1, rider 0 0 = 9, undo = 0",
            "rider 0 0 = 0");
        Script.car("UNDONE: BACK", THREE).calls("rides = 1, rings 0 = 2, rides = 2, boards 2 = 3, undo = 3, now 1 = 3",
            "rider 2 4 = 1");
        Script.car("(10 are known)", THREE).times(10, "rides").times(9, "undo").calls("now 0 = 1, undo = 0, now 0 = 0",
            "undo = -2");
        Script.car("(older ones are lost)", THREE).times(11, "rides").calls("count 3 = 10").times(9, "undo").calls(
            "now 0 = 2, undo = 0, now 0 = 1, undo = -2, now 0 = 1, latest 0 1 = 1");
        Script.car("(10 are known, of different ones)", THREE).calls("rides = 1, thinks 1 0 = 4, rings 0 = 1, boards 1 = 3",
            "seats 0 9 = 0, twice 2 = 0, boards 0 = 3, seats 2 0 = 9, rings 0 = 1, rides = 2, rides = 3, count 3 = 10")
            .times(9, "undo").calls("count 3 = 1, latest 1 0 = 4, undo = 0, latest 1 0 = 0, now 0 = 1, undo = -2");
        Script.car("an undone one is not known", THREE).times(3, "rides").calls("undo = 2, rides = 3, undo = 2, undo = 1",
            "now 0 = 1");
    }

    // ---- 3 nothing is changed

    private static void rings() {
        Script.car("(0 rings for none: one row.)", THREE).calls("row 0 -1 = 1, row 0 0 = -9, row 0 5 = -9, rides = 1",
            "row 0 -1 = 1");
        Script.fresh("0 rings for none, of nobody").calls("row 0 -1 = 1, row 0 0 = -9");
        Script.car("no row: nobody thought", THREE).calls("row 1 -1 = 0, row 1 0 = -9, row 7 -1 = 0");
        Script.car("no row for all: the last can't get down", SIX).calls("rides = 1, row 63 -1 = 0, row 63 0 = -9",
            "row 63 5 = -9");
        Script.car("the longest row", SIX).calls("rides = 1, row 62 -1 = 1, row 62 0 = 2, row 62 4 = 0, row 62 5 = -9");
        Script.car("just these: another one would get down", THREE).calls("thinks 1 0 = 1, thinks 2 0 = 2, row 2 -1 = 0",
            "row 4 -1 = 1, row 6 -1 = 0");
        Script.car("how many rows, in each order", FOUR).calls("thinks 1 0 = 1, thinks 3 2 = 2, row 10 -1 = 2, row 10 0 = 0",
            "row 10 1 = 2, row 10 2 = -9, row 2 -1 = 1, row 8 -1 = 1");
        Script.car("of several rows the first (by numbers)", FOUR).calls("thinks 0 3 = 1, thinks 0 2 = 2, thinks 0 1 = 3",
            "row 1 -1 = 3, row 1 0 = 1");
        Script.car("the first row goes on by the lowest", FOUR).calls("thinks 0 3 = 1, thinks 0 2 = 2, thinks 1 3 = 3",
            "row 3 -1 = 2, row 3 0 = 2, row 3 1 = 3, row 1 0 = 2, row 2 0 = 3");
    }

    private static void ringers() {
        Script.car("unlike RIDERS: 1 would have to ring again", FOUR).calls("thinks 0 1 = 1, thinks 2 1 = 2, row 4 -1 = 1",
            "row 5 -1 = 0, row 5 0 = -9, row 5 1 = -9");
        Script.car("unlike RIDERS: 3 rings instead", FOUR).calls("thinks 0 1 = 1, thinks 2 1 = 2, thinks 0 3 = 3",
            "row 5 -1 = 2, row 5 0 = 1, row 5 1 = 3, row 5 2 = -9");
        Script.car("each ABOARD as he does: 0 rings ahead of getting down", FOUR).calls("thinks 1 0 = 1, thinks 0 3 = 2",
            "row 3 -1 = 1, row 3 0 = 0, row 3 1 = 3");
        Script.car("each ABOARD as he does: one of two must stay", THREE).calls("thinks 0 1 = 1, thinks 1 0 = 2",
            "row 1 -1 = 1, row 2 -1 = 1, row 3 -1 = 0");
        Script.car("by each of which one GETS DOWN: no lonely ring", FOUR).calls("thinks 1 3 = 1, row 2 -1 = 1, row 2 0 = 3",
            "row 2 1 = -9");
        Script.car("who ring (not twice)", THREE).calls("thinks 0 1 = 1, row 2 -1 = 0, row 1 -1 = 1, row 1 0 = 1");
        Script.car("RIDERS ABOARD alone", THREE).calls("rides = 1, rings 1 = 0, row 1 -1 = -1, row 6 -1 = 0, row 2 0 = 2");
    }

    private static void soon() {
        Script.car("SOON 0, for none", THREE).calls("soon 0 = 0");
        Script.car("SOON 0, if there are such RINGS", THREE).calls("thinks 0 2 = 1, soon 1 = 0, rides = 1, soon 1 = 0",
            "soon 2 = 0");
        Script.car("SOON, how many STOPS", THREE).calls("soon 1 = 1, soon 3 = 1, rides = 1, soon 3 = 0");
        Script.car("SOON 0, though a STOP would spoil the RINGS", "r0 9 1;r0 5 1;r0 5 1;").calls("thinks 1 0 = 1, soon 2 = 0",
            "rides = 1, row 2 -1 = 0, soon 2 = -9");
        Script.car("SOON, NONE", THREE).calls("soon 7 = -9, rides = 1, soon 7 = -9");
        Script.car("SOON, NONE: nobody would think so", "r0 9 1;r0 5 1;r0 5 1;").calls("soon 1 = 1, soon 4 = 1, soon 2 = -9");
        Script.car("SOON, NONE: alone", ONE).calls("soon 1 = -9, soon 0 = 0");
        Script.car("beyond STOP 99 does not matter", THREE).times(98, "rides").calls("seats 0 9 = 0, rings 1 = 0, soon 2 = 0",
            "soon 4 = 1, rides = 99, rides = -2, rings 1 = 2, boards 0 = 2, boards 2 = 3, soon 3 = 1, now 0 = 99");
        Script.car("beyond STOP 99, one more STOP", THREE).times(99, "rides").calls("rings 1 = 0, soon 4 = 1, now 0 = 99");
    }

    private static void circle() {
        Script.car("CIRCLE: all", SIX).calls("circle 0 0 = 6, circle 0 1 = 0, circle 5 0 = 6, circle 5 1 = 0");
        Script.car("CIRCLE: the one they come to", "r0 0 2;r0 0 2;r0 0 2;r0 0 2;r0 0 2;r0 0 0;").calls(
            "circle 5 0 = 6, circle 3 0 = 6, circle 3 1 = 0");
        Script.car("CIRCLE: not of himself", "r0 0 2;r0 0 2;r5 0 0;r5 0 0;").calls("circle 0 0 = 2, circle 0 1 = 2",
            "circle 1 1 = 2, circle 3 1 = 2");
        Script.car("CIRCLE: of two", "r0 0 2;r0 0 2;").calls("circle 0 0 = 2, circle 1 0 = 2, circle 1 1 = 0");
        Script.car("CIRCLE: NONE (alone)", ONE).calls("circle 0 0 = -9, circle 0 1 = -9");
        Script.car("CIRCLE: NONE (alone, others are down)", "r0 0 2;r0 0 2;").calls("rides = 1, rings 1 = 0, circle 1 0 = -9",
            "circle 1 1 = -9, circle 0 0 = -1");
    }

    private static void chair() {
        Script.car("CHAIR: the lowest SEAT, 0", "r5 0 2;r3 0 2;r9 0 2;").calls("chair 0 1 = 0, chair 2 1 = 0");
        Script.car("CHAIR: the lowest SEAT of several", "r5 0 2;r3 0 2;r9 0 2;").calls("chair 0 2 = 7");
        Script.car("CHAIR: the last SEAT", "r0 0 0;r8 0 0;r9 0 0;").calls("chair 0 2 = 9");
        Script.car("CHAIR: by LAW 0, whatever his own", "r5 0 1;r3 9 1;r9 0 1;").calls("chair 0 2 = 7, rider 0 5 = 1");
        Script.car("CHAIR: the one he has, too", "r7 0 0;r3 0 0;r9 0 0;").calls("chair 0 2 = 7");
        Script.car("CHAIR: NONE, a lower one has the same SEAT", "r0 0 0;r5 0 0;r5 0 0;").calls("chair 0 2 = -9",
            "chair 0 1 = 0");
        Script.car("CHAIR: those down take none", "r0 0 0;r5 0 0;r5 0 0;").calls("thinks 1 2 = 1, rings 2 = 1",
            "chair 0 2 = 0");
        Script.car("CHAIR: like ways, the lower one", "r0 0 0;r9 0 0;r7 0 0;").calls("chair 0 2 = 0, chair 0 1 = 8");
    }

    private static void seen() {
        Script.car("SEEN (6 at most)", THREE).times(5, "saw 0 1").calls("count 2 = 5, saw 0 2 = 6, saw 0 1 = -3",
            "count 2 = 6");
        Script.car("LAWS, nothing was SEEN", THREE).calls("laws 0 = 7, laws 1 = 7, laws 2 = 7");
        Script.car("LAWS by which all that was SEEN is so", THREE).calls("saw 0 1 = 1, laws 0 = 5, saw 0 2 = 2, laws 0 = 0",
            "laws 1 = 7");
        Script.car("LAWS, what was SEEN latest counts, too", THREE).times(5, "saw 0 2").calls("laws 0 = 2, saw 0 1 = 6",
            "laws 0 = 0");
        Script.car("SEATS as NOW", THREE).calls("saw 0 1 = 1, laws 0 = 5, seats 0 8 = 0, laws 0 = 4, undo = 0, laws 0 = 5");
        Script.car("of all RIDERS ABOARD NOW", THREE).calls("saw 0 2 = 1, laws 0 = 2, thinks 1 0 = 1, rings 0 = 1",
            "laws 0 = 7, boards 1 = 3, laws 0 = 2");
        Script.car("(who is not ABOARD thinks of nobody)", THREE).calls("saw 1 0 = 1, laws 1 = 1, thinks 1 2 = 1",
            "rings 2 = 1, laws 1 = 0, boards 1 = 3, laws 1 = 1");
        Script.car("not ABOARD, nothing SEEN of him", THREE).calls("saw 0 1 = 1, thinks 1 2 = 1, rings 2 = 1, laws 1 = 7",
            "laws 0 = 0");
        Script.car("thought of one not ABOARD: nobody does", THREE).calls("saw 0 2 = 1, thinks 2 1 = 1, rings 1 = 2",
            "laws 0 = 0");
    }

    private static void likely() {
        Script.fresh("LIKELY (1 for nobody)").calls("likely = 1");
        Script.car("LIKELY of one", ONE).calls("likely = 3");
        Script.car("LIKELY of six", SIX).calls("likely = 729");
        Script.car("LIKELY, one with another", THREE).calls("saw 0 1 = 1, likely = 18, saw 2 1 = 2, likely = 12, saw 1 2 = 3",
            "likely = 8");
        Script.car("LIKELY 0", THREE).calls("saw 0 1 = 1, saw 0 2 = 2, likely = 0, forget = 2, likely = 27");
        Script.car("LIKELY of all who are ABOARD", THREE).calls("saw 1 0 = 1, likely = 9, thinks 1 2 = 1, rings 2 = 1",
            "laws 1 = 0, likely = 9");
    }

    private static void odds() {
        String thoughts = "thinks 1 0 = 1, thinks 2 0 = 2, thinks 3 0 = 3";
        Script.car("ODDS by 0: nobody is asleep", FOUR).calls(thoughts, "odds 0 3 0 0 = 1, odds 0 3 0 1 = 1",
            "odds 0 2 0 0 = 0, odds 0 2 0 1 = 1, odds 0 1 0 0 = 0, odds 0 1 0 1 = 1");
        Script.car("ODDS by 10: all are asleep", FOUR).calls(thoughts, "odds 0 3 10 0 = 0, odds 0 3 10 1 = 1",
            "odds 0 1 10 0 = 0, odds 0 1 10 1 = 1");
        Script.car("ODDS by 1 and 9", FOUR).calls(thoughts, "odds 0 3 1 0 = 9, odds 0 3 1 1 = 10, odds 0 3 9 0 = 1",
            "odds 0 3 9 1 = 10, odds 0 2 1 0 = 9, odds 0 2 1 1 = 100, odds 0 2 9 0 = 9, odds 0 2 9 1 = 100");
        Script.car("ODDS in least terms", FOUR).calls(thoughts, "odds 0 3 5 0 = 1, odds 0 3 5 1 = 2, odds 0 2 5 0 = 1",
            "odds 0 2 5 1 = 4, odds 0 1 5 0 = 1, odds 0 1 5 1 = 8, odds 0 1 8 0 = 16, odds 0 1 8 1 = 125");
        Script.car("ODDS of one who never thought of him", FOUR).calls("thinks 1 0 = 1, odds 0 2 5 0 = 0, odds 0 2 5 1 = 1",
            "odds 1 0 5 0 = 0, odds 1 0 5 1 = 1");
        Script.car("ODDS: those who never thought, or earlier, do not matter", FOUR).calls("thinks 1 0 = 1, thinks 2 0 = 2",
            "odds 0 2 4 0 = 3, odds 0 2 4 1 = 5");
        Script.car("ODDS: the first one is not asleep, nor in the way", FOUR).calls("thinks 1 0 = 1, thinks 0 1 = 2",
            "odds 0 1 4 0 = 3, odds 0 1 4 1 = 5");
        Script.car("ODDS: those down are not in the way", FOUR).calls(thoughts, "thinks 3 1 = 4, rings 1 = 3",
            "odds 0 2 4 0 = 3, odds 0 2 4 1 = 5");
        Script.car("ODDS of the most riders", SIX).calls("thinks 1 0 = 1, thinks 2 0 = 2, thinks 3 0 = 3, thinks 4 0 = 4",
            "thinks 5 0 = 5, odds 0 1 9 0 = 6561, odds 0 1 9 1 = 100000, odds 0 1 1 0 = 9, odds 0 1 1 1 = 100000");
    }

    // ---- 4 KINDS and IMAGES

    private static void kinds() {
        Script.car("THE TRACE (0 at first)", THREE).calls("trace = 0");
        Script.car("RIDER his SEAT (1)", THREE).calls("mark 0 2 = 9, trace = 1");
        Script.car("NUN up, and his LOOKS (10)", THREE).calls("mark 1 2 = 11, trace = 11");
        Script.car("BOY up less how many thought of him ever (100)", THREE).calls("thinks 0 2 = 1, thinks 0 2 = 2",
            "mark 2 2 = 8, trace = 101");
        Script.car("BOY: ever, of all, those down, too", THREE).calls("thinks 0 2 = 1, thinks 1 2 = 2, rings 2 = 1",
            "mark 2 2 = 7, rings 2 = 0, mark 2 2 = 7");
        Script.car("BOY below 0", THREE).calls("thinks 1 0 = 1, thinks 2 0 = 2, mark 2 0 = -2");
        Script.car("WIDOWER up times 2 (1000)", THREE).calls("mark 3 2 = 22, trace = 1011, mark 3 0 = 0, trace = 2022");
        Script.car("GIRL up, and his number (10000)", THREE).calls("mark 4 2 = 11, trace = 10101, mark 4 0 = 0",
            "trace = 20202");
        Script.car("DRIVER up, and THE STOP (100000)", THREE).calls("mark 5 2 = 9, trace = 100001, rides = 1, mark 5 2 = 10",
            "trace = 200002");
        Script.car("as NOW: his SEAT, one down", THREE).calls("seats 1 6 = 4, thinks 1 0 = 1, rings 0 = 1, mark 0 1 = 6",
            "mark 1 1 = 7");
        Script.car("of all calls ever, together", THREE).calls("mark 0 0 = 0, rides = 1, undo = 0, keep 0 = 0, back 0 = 0",
            "car = 0, trace = 1").type(ONE).calls(
            "car = 1, mark 1 0 = 10, trace = 12, mark 1 1 = -1000000, mark 6 0 = -1000000, trace = 12");
        Script.car("THE TRACE of many", THREE).times(500, "mark 5 0").calls("trace = 50000500");
    }

    private static void imagesKeepNow() {
        Script.car("keep THE STOP", THREE).calls("rides = 1, keep 0 = 1, rides = 2, back 0 = 1, now 0 = 1");
        Script.car("keep who is ABOARD", THREE).calls("rides = 1, rings 1 = 0, keep 0 = 1, boards 0 = 3, rings 0 = 2",
            "back 0 = 1, now 1 = 6, rider 0 3 = 0, rider 2 3 = 1");
        Script.car("keep SEATS", THREE).calls("seats 0 7 = 0, keep 0 = 0, seats 0 1 = 7, seats 1 1 = 4, back 0 = 0",
            "rider 0 0 = 7, rider 1 0 = 4");
        Script.car("keep thoughts", THREE).calls("thinks 0 1 = 1, keep 0 = 0, thinks 0 1 = 2, thinks 2 1 = 3, back 0 = 0",
            "latest 0 1 = 1, latest 2 1 = 0, now 2 = 1, thinks 2 1 = 2");
        Script.car("keep LONELY", THREE).calls("rings 0 = -9, keep 0 = 0, rings 0 = -9, twice 0 = -9, back 0 = 0, now 3 = 1");
        Script.car("keep where each got down", THREE).calls("rides = 1, rings 1 = 0, keep 0 = 1, boards 0 = 3, rides = 2",
            "rings 1 = 0, rider 0 4 = 2, back 0 = 1, rider 0 4 = 1, rider 1 4 = -9");
        Script.car("keep what may be UNDONE", THREE).calls("rides = 1, rides = 2, keep 0 = 2, undo = 1, thinks 0 2 = 4",
            "back 0 = 2, count 3 = 2, undo = 1, now 0 = 1, latest 0 2 = 0, undo = 0, now 0 = 0, undo = -2, back 0 = 2",
            "count 3 = 2");
        Script.car("keep nothing that may be UNDONE", THREE).calls("keep 0 = 0, rides = 1, back 0 = 0, undo = -2",
            "count 3 = 0");
        Script.car("keep ten that may be UNDONE", THREE).times(12, "rides").calls("keep 1 = 12").times(10, "undo").calls(
            "now 0 = 2, back 1 = 12").times(9, "undo").calls(
            "now 0 = 3, undo = 0, now 0 = 2, undo = -2");
        Script.car("IMAGES 0, 1, each for itself", THREE).calls("keep 0 = 0, rides = 1, keep 1 = 1, rides = 2, back 0 = 0",
            "back 1 = 1, back 0 = 0, rides = 1, rides = 2, keep 0 = 2, back 1 = 1, back 0 = 2");
    }

    private static void imagesKeepNothingElse() {
        Script.car("nothing else: SEEN", THREE).calls("saw 0 1 = 1, keep 0 = 0, saw 0 2 = 2, back 0 = 0, count 2 = 2",
            "forget = 2, back 0 = 0, count 2 = 0");
        Script.car("nothing else: THE TEXT", THREE).calls("type 114 = 1, keep 0 = 0, type 114 = 2, back 0 = 0, count 4 = 2",
            "clear = 2, back 0 = 0, clear = 0");
        Script.car("nothing else: THE TRACE", THREE).calls("keep 0 = 0, mark 0 0 = 0, back 0 = 0, trace = 1");
        Script.car("nothing else: IMAGES", THREE).calls("keep 0 = 0, rides = 1, keep 1 = 1, back 0 = 0, back 1 = 1");
        Script.car("nothing else: back is not UNDONE", THREE).calls("rides = 1, keep 0 = 1, rides = 2, back 0 = 1, undo = 0",
            "now 0 = 0, undo = -2");
    }

    private static void readAnew() {
        String busy = "rides = 1, rings 1 = 0, rings 0 = -2, twice 1 = 2, rings 1 = -9, seats 1 8 = 4,"
            + "keep 0 = 1, keep 1 = 1, mark 0 1 = 8";
        Script.car("Read anew: STOP 0, all ABOARD, no thoughts", THREE).calls(busy).type(THREE).calls("car = 3, now 0 = 0",
            "now 1 = 7, now 2 = 0, now 3 = 0, now 4 = 0, latest 0 1 = 0, latest 1 2 = 0, latest 2 0 = 0, rider 0 4 = -9",
            "rider 1 0 = 4, thinks 0 1 = 1");
        Script.car("Read anew: nothing SEEN", THREE).calls("saw 0 1 = 1").type(THREE).calls("car = 3, count 2 = 0",
            "laws 0 = 7, forget = 0, saw 0 1 = 1");
        Script.car("Read anew: nothing to be UNDONE", THREE).calls(busy).type(THREE).calls("car = 3, count 3 = 0, undo = -2",
            "now 0 = 0");
        Script.car("Read anew: IMAGES are gone", THREE).calls(busy).type(THREE).calls("car = 3, back 0 = -2, back 1 = -2",
            "keep 1 = 0, back 0 = -2, back 1 = 0");
        Script.car("Read anew: THE TRACE stays", THREE).calls(busy).type(THREE).calls("car = 3, trace = 1");
        Script.car("Read anew: what is not told as at first", THREE + "l4;").calls("car = 0, count 0 = 0, count 1 = 9",
            "now 1 = 0, rider 0 0 = -1");
        Script.car("Not read: nothing changes", THREE + "l4;").calls(busy, "saw 1 1 = -1").type("r1 1 1;l5;x").calls(
            "car = -20, count 4 = 11, count 0 = 3, count 1 = 4, count 3 = 5, now 0 = 1, now 1 = 2, now 3 = 1",
            "rider 1 0 = 8, rider 1 2 = 2, back 1 = 1, back 0 = 1, trace = 1");
    }

    private static void refusedInOrder() {
        Script.fresh("BAD ahead of FULL: type").times(120, "type 32").calls("type -1 = -1, type 256 = -1, type 0 = -3",
            "type 255 = -3");
        Script.car("BAD ahead of FULL: saw", THREE).times(6, "saw 0 1").calls("saw 0 0 = -1, saw 0 3 = -1, saw -1 0 = -1",
            "saw 0 1 = -3, thinks 1 0 = 1, rings 0 = 1, saw 0 1 = -1, saw 1 0 = -1, saw 0 2 = -3");
        Script.car("BAD ahead of STATE", THREE).calls("thinks 1 0 = 1, rings 0 = 1, thinks 1 1 = -1, thinks 1 3 = -1",
            "thinks 3 1 = -1, seats 1 10 = -1, seats 1 -1 = -1, thinks 1 0 = -2, seats 1 4 = -2, seats 1 5 = -2",
            "back 2 = -1, back 1 = -2");
    }
}
