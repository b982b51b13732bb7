/** Of each promise: the edges of its numbers, each sort of refusal, and what it answers when there is nothing. */
public final class EdgesOfPromisesTest {
    private static final String ONE = "r5 5 2;";
    private static final String THREE = "r0 0 2;r4 1 2;r9 2 2;";
    private static final String SIX = "r5 5 2;r5 5 2;r5 5 2;r5 5 2;r5 5 2;r5 5 2;";
    /** Brings 1 down from THREE, so that 0 and 2 are left. */
    private static final String DOWN = "thinks 1 0 = 1, rings 0 = 1";
    private static final int BAD = BellCars.BAD, STATE = BellCars.STATE, NO = BellCars.NO;
    private static final int[] FAR = {Integer.MIN_VALUE, Integer.MIN_VALUE + 1, -1000000, -2, -1, 1 << 30, Integer.MAX_VALUE};

    public static void main(String[] args) {
        newObject();
        typeClear();
        car();
        rider();
        latest();
        rides();
        thinks();
        ringsTwice();
        seats();
        boards();
        undo();
        now();
        row();
        soon();
        odds();
        circle();
        chair();
        sawForget();
        lawsLikely();
        mark();
        keepBack();
        count();
        Script.finish("EdgesOfPromisesTest");
    }

    /** Of the call with each number in place of the sign ?, that it answers what is due. */
    private static void each(Script script, String call, int due, int... numbers) {
        for (int number : numbers) {
            script.calls(call.replace("?", "" + number) + " = " + due);
        }
    }

    /** Each number below 0 and far above all, and those that are told, is BAD. */
    private static void bad(Script script, String call, int due, int... numbers) {
        each(script, call, due, FAR);
        each(script, call, due, numbers);
    }

    private static void newObject() {
        Script.fresh("1: nobody rides").calls("now 1 = 0, count 0 = 0, rides = 1, now 2 = 0, keep 0 = 1");
        Script.fresh("1: as told").calls("count 1 = 9, count 2 = 0, count 3 = 0, count 4 = 0, now 0 = 0, now 3 = 0",
            "now 4 = 0, trace = 0, undo = -2, back 0 = -2, back 1 = -2, likely = 1, row 0 -1 = 1, soon 0 = 0");
        Script empty = Script.fresh("1: each call of a rider");
        for (String call : new String[] {"rider 0 0", "latest 0 1", "thinks 0 1", "rings 0", "twice 0", "seats 0 0",
            "boards 0",
            "row 1 -1", "soon 1", "odds 0 1 5 0", "circle 0 0", "chair 0 1", "saw 0 1", "laws 0"}) {
            empty.calls(call + " = -1");
        }
        empty.calls("mark 0 0 = -1000000, count 3 = 0, trace = 0");
    }

    private static void typeClear() {
        Script script = Script.fresh("2: a byte (0 .. 255)").calls("type 0 = 1, type 255 = 2");
        bad(script, "type ?", BAD, 256, 257, 511, 1000);
        script.calls("count 4 = 2");
        Script.fresh("2: BAD; FULL").times(119, "type 32").calls("type 32 = 120, type 32 = -3, type 256 = -1, type -1 = -1",
            "clear = 120, type 32 = 1");
        Script.fresh("3: how many bytes it had").calls("clear = 0, type 120 = 1, clear = 1, clear = 0, count 4 = 0",
            "type 120 = 1");
        Script.fresh("3: THE TEXT is empty").type("x").calls("clear = 1").type(ONE).calls("car = 1, clear = 0");
    }

    private static void car() {
        Script.car("4: THE TEXT is empty then", THREE).calls("count 4 = 0, clear = 0, car = 0, count 0 = 0");
        Script.fresh("4: how many ITEMS, none").calls("car = 0");
        Script.fresh("4: how many ITEMS, the most").type(SIX + "l9;").calls("car = 7");
        Script.fresh("4: -10 less FAULT, 0").type("x").calls("car = -10");
        Script.fresh("4: -10 less FAULT, 120").type(" ".repeat(119) + "l").calls("car = -130, count 4 = 120, car = -130",
            "type 32 = -3");
        Script.car("4: nothing changes (THE TEXT, too, stays)", THREE).calls(DOWN).type("r1 1 1;;").calls("car = -17",
            "count 4 = 8, count 0 = 3, now 1 = 5, latest 1 0 = 1, count 3 = 2, undo = 1, now 1 = 7");
        Script.fresh("4: what stays is read with what comes").type("r1 1 1").calls("car = -16").type(";").calls("car = 1",
            "rider 0 0 = 1");
    }

    private static void rider() {
        Script script = Script.car("5: BAD", THREE);
        bad(script, "rider ? 0", BAD, 3, 5, 6, 64);
        bad(script, "rider 0 ?", BAD, 8, 9, 100);
        bad(script, "rider ? 8", BAD, 0, 3);
        script.calls(DOWN, "rider 1 8 = -1, rider 3 4 = -1");
        Script.car("5: at which STOP he got down (NONE: ABOARD)", THREE).calls("rider 0 4 = -9", DOWN, "rider 1 4 = 0",
            "rider 0 4 = -9")
            .times(99, "rides").calls("rings 0 = 2, rider 2 4 = 99, rider 1 4 = 0, boards 2 = 2, rider 2 4 = -9");
        Script.car("5: WHOM he thinks of (NONE; not ABOARD: NONE)", THREE).calls(DOWN, "rider 1 5 = -9, rider 0 5 = 2",
            "rider 2 5 = 0, thinks 2 0 = 2, rings 0 = 2, rider 2 5 = -9, rider 0 5 = -9");
        Script.car("5: who would GET DOWN, if he rang (NONE)", THREE).calls("rider 0 6 = -9, thinks 1 0 = 1, rider 0 6 = 1",
            "rider 1 6 = -9, rings 0 = 1, rider 0 6 = -9, now 3 = 0");
        Script.car("5: if he rang twice (NONE)", THREE).calls("rider 0 7 = -9, thinks 0 1 = 1, rider 0 7 = 1, rider 1 7 = -9",
            "twice 0 = 1, rider 0 7 = -9, now 3 = 0");
        Script.car("5: one who got down does not ring", THREE).calls("thinks 2 1 = 1, thinks 1 2 = 2, thinks 1 0 = 3",
            "rider 1 6 = 2, rider 1 7 = 0, rings 0 = 1, rider 1 6 = -9, rider 1 7 = -9, boards 1 = 3, rider 1 6 = 2",
            "rider 1 7 = 0");
    }

    private static void latest() {
        Script script = Script.car("6: BAD (alike ones, too)", THREE).calls("latest 0 0 = -1, latest 2 2 = -1",
            "latest 3 3 = -1");
        bad(script, "latest ? 0", BAD, 3, 5, 6);
        bad(script, "latest 0 ?", BAD, 3, 5, 6, 7, 12);
        script.calls("latest 2 1 = 0, latest 1 2 = 0");
        Script.car("6: of those not ABOARD, too", THREE).calls("thinks 0 1 = 1, thinks 1 0 = 2, rings 0 = 1, latest 0 1 = 1",
            "latest 1 0 = 2, latest 1 2 = 0");
        Script.car("6: of the last pair", SIX).calls("thinks 5 4 = 1, latest 5 4 = 1, latest 4 5 = 0, thinks 0 5 = 2",
            "latest 0 5 = 2, latest 1 0 = 0");
    }

    private static void rides() {
        Script.car("7: STATE: it is 99", THREE).times(97, "rides").calls("rides = 98, rides = 99, rides = -2, rides = -2",
            "now 0 = 99, now 2 = 297, count 3 = 10, latest 2 0 = 297");
        Script.car("7: 99 no more, when UNDONE", THREE).times(99, "rides").calls("rides = -2, undo = 9, rides = 99",
            "rides = -2, count 3 = 10");
    }

    private static void thinks() {
        Script script = Script.car("8: BAD (alike ones, too)", THREE).calls("thinks 0 0 = -1, thinks 2 2 = -1",
            "thinks 3 3 = -1");
        bad(script, "thinks ? 0", BAD, 3, 5, 6);
        bad(script, "thinks 0 ?", BAD, 3, 5, 6);
        script.calls("now 2 = 0, count 3 = 0, thinks 2 0 = 1");
        Script.car("8: STATE: one is not ABOARD", THREE).calls(DOWN, "thinks 0 1 = -2, thinks 1 0 = -2, thinks 2 1 = -2",
            "now 2 = 1, thinks 0 2 = 2");
        Script.car("8: STATE: both are not ABOARD", THREE).calls(DOWN, "thinks 2 0 = 2, rings 0 = 2, thinks 1 2 = -2",
            "thinks 2 1 = -2, thinks 1 1 = -1, count 3 = 4, boards 1 = 2, thinks 1 2 = -2, boards 2 = 3, thinks 1 2 = 3");
    }

    private static void ringsTwice() {
        for (String call : new String[] {"rings", "twice"}) {
            Script script = Script.car("9, 10: BAD", THREE);
            bad(script, call + " ?", BAD, 3, 5, 6, 32);
            script.calls("now 3 = 0, count 3 = 0", DOWN, "now 3 = 0, count 3 = 2");
            Script.car("9, 10: STATE: he is not ABOARD", THREE).calls(DOWN, call + " 1 = -2, now 3 = 0, count 3 = 2",
                "boards 1 = 3", call + " 2 = -9, now 3 = 1");
            Script.car("9, 10: (NONE)", THREE).calls(call + " 0 = -9, now 1 = 7, count 3 = 1, now 3 = 1");
        }
        Script.car("9: all but the last ringer get down", SIX).calls("rides = 1, rings 1 = 0, rings 2 = 1, rings 3 = 2",
            "rings 4 = 3, rings 5 = 4, now 1 = 32, rings 5 = -9, twice 5 = -9, now 3 = 2, rings 0 = -2");
        Script.car("10: all but the last ringer get down", SIX).calls("rides = 1, twice 0 = 1, rides = 2, twice 0 = 2",
            "rides = 3, twice 0 = 3, rides = 4, twice 0 = 4, rides = 5, twice 0 = 5, now 1 = 1, twice 0 = -9, now 3 = 1");
    }

    private static void seats() {
        Script script = Script.car("11: BAD", THREE);
        bad(script, "seats ? 5", BAD, 3, 5, 6);
        bad(script, "seats 0 ?", BAD, 10, 11, 99);
        script.calls("rider 0 0 = 0, count 3 = 0, seats 0 1 = 0, seats 0 0 = 1, seats 0 9 = 0, seats 0 8 = 9");
        Script.car("11: STATE: he has it", THREE).calls("seats 0 0 = -2, seats 1 4 = -2, seats 2 9 = -2, count 3 = 0",
            "seats 0 4 = 0, seats 0 4 = -2, count 3 = 1");
        Script.car("11: STATE: he is not ABOARD", THREE).calls(DOWN, "seats 1 4 = -2, seats 1 0 = -2, seats 1 10 = -1",
            "rider 1 0 = 4, count 3 = 2, boards 1 = 3, seats 1 0 = 4");
    }

    private static void boards() {
        Script script = Script.car("12: BAD", THREE);
        bad(script, "boards ?", BAD, 3, 5, 6, 32);
        script.calls("now 1 = 7, count 3 = 0", DOWN, "boards 3 = -1, now 1 = 5");
        Script.car("12: STATE: he is", THREE).calls("boards 0 = -2, boards 2 = -2, count 3 = 0", DOWN, "boards 0 = -2",
            "boards 1 = 3, boards 1 = -2, count 3 = 3");
        Script.car("12: how many are ABOARD", SIX).calls("rides = 1, rings 1 = 0, rings 2 = 1, rings 3 = 2, rings 4 = 3",
            "rings 5 = 4, boards 0 = 2, boards 4 = 3, boards 2 = 4, boards 1 = 5, boards 3 = 6, now 1 = 63");
    }

    private static void undo() {
        Script.fresh("13: STATE: none").calls("undo = -2, undo = -2, rides = 1, undo = 0, undo = -2, now 0 = 0");
        Script.car("13: how many more may be", THREE).times(10, "rides").calls("undo = 9, undo = 8, undo = 7, undo = 6",
            "undo = 5, undo = 4, undo = 3, undo = 2, undo = 1, undo = 0, undo = -2, now 0 = 0, now 2 = 0");
        Script.car("13: of 25", THREE).times(25, "rides").times(10, "undo").calls("now 0 = 15, count 3 = 0, undo = -2",
            "now 0 = 15, rides = 16, count 3 = 1, undo = 0");
        Script.car("13: what is refused is not known", THREE).calls("rides = 1, thinks 0 0 = -1, seats 0 0 = -2",
            "boards 0 = -2, rings 3 = -1, twice 3 = -1, count 3 = 1, undo = 0, now 0 = 0");
        Script.car("13: what is asked is not known", THREE).calls("rides = 1, row 7 -1 = 0, soon 1 = 0, saw 0 1 = 1",
            "forget = 1, keep 0 = 1, mark 0 0 = 0, type 32 = 1, clear = 1, count 3 = 1, undo = 0, now 0 = 0");
    }

    private static void now() {
        Script script = Script.car("14: BAD", THREE);
        bad(script, "now ?", BAD, 5, 6, 100);
        Script.car("14: all of it", THREE + "l1;").calls("now 0 = 0, now 1 = 7, now 2 = 0, now 3 = 0, now 4 = 0, rides = 1",
            "rings 1 = 0, rings 2 = 1, rings 2 = -9, now 0 = 1, now 1 = 4, now 2 = 3, now 3 = 1, now 4 = 1");
    }

    private static void row() {
        Script script = Script.car("15: BAD", THREE).calls("rides = 1");
        bad(script, "row ? -1", BAD, 8, 9, 15, 16, 32, 63, 64, 128);
        bad(script, "row ? 0", BAD, 8, 15, 64);
        each(script, "row 1 ?", BAD, Integer.MIN_VALUE, -1000000, -9, -3, -2, 6, 7, 63, Integer.MAX_VALUE);
        script.calls("row 0 -2 = -1, row 0 6 = -1, row 8 6 = -1, row 1 -1 = 1, row 1 5 = -9");
        Script.car("15: BAD (bits of RIDERS ABOARD)", THREE).calls("rides = 1, rings 1 = 0, row 1 -1 = -1, row 1 0 = -1",
            "row 3 -1 = -1, row 7 -1 = -1, row 2 -1 = 1, row 4 -1 = 0");
        Script.car("15: the i-th who rings (NONE: not so many, no row)", THREE).calls("rides = 1, row 3 0 = 1, row 3 1 = 2",
            "row 3 2 = -9, row 3 5 = -9, row 7 -1 = 0, row 7 0 = -9, row 7 2 = -9, row 0 0 = -9");
        Script.car("15: the last of five who ring", SIX).calls("rides = 1, row 31 -1 = 1, row 31 0 = 1, row 31 4 = 5",
            "row 31 5 = -9, row 63 5 = -9");
        // 0, 1 and 2 thought of all others: 2 first, then 1, and 0 latest; 3 thought of nobody.
        Script.car("15: each ring lets down the one who is left", "r0 0 2;r0 0 2;r0 0 2;r0 0 2;").calls("thinks 2 3 = 1",
            "thinks 2 1 = 2, thinks 2 0 = 3, thinks 1 3 = 4, thinks 1 2 = 5, thinks 1 0 = 6, thinks 0 3 = 7",
            "thinks 0 2 = 8, thinks 0 1 = 9, row 1 -1 = 3, row 1 0 = 1, row 2 -1 = 1, row 2 0 = 0, row 3 -1 = 6",
            "row 3 0 = 0, row 3 1 = 2, row 4 -1 = 0, row 6 -1 = 0, row 7 -1 = 3, row 7 0 = 0, row 7 1 = 2, row 7 2 = 3");
    }

    private static void soon() {
        Script script = Script.car("16: BAD", THREE);
        bad(script, "soon ?", BAD, 8, 15, 16, 32, 63, 64, 128);
        script.calls(DOWN, "soon 2 = -1, soon 3 = -1, soon 7 = -1, soon 0 = 0, soon 5 = -9");
        Script.fresh("16: BAD, of nobody").calls("soon 0 = 0, soon 1 = -1, soon 63 = -1, soon -1 = -1");
        Script.car("16: nothing is changed", THREE).calls("soon 3 = 1, soon 7 = -9, now 0 = 0, now 2 = 0, latest 0 1 = 0",
            "now 1 = 7, count 3 = 0");
    }

    private static void odds() {
        Script script = Script.car("17: BAD", THREE).calls("thinks 1 0 = 1, odds 0 0 5 0 = -1, odds 2 2 5 1 = -1",
            "odds 3 3 5 0 = -1");
        bad(script, "odds ? 0 5 0", BAD, 3, 5, 6);
        bad(script, "odds 0 ? 5 0", BAD, 3, 5, 6);
        bad(script, "odds 0 1 ? 0", BAD, 11, 12, 100);
        bad(script, "odds 0 1 5 ?", BAD, 2, 3, 100);
        script.calls("odds 0 1 0 0 = 1, odds 0 1 10 0 = 0, odds 0 1 10 1 = 1");
        Script.car("17: BAD (not ABOARD, too)", THREE).calls(DOWN, "odds 1 0 5 0 = -1, odds 0 1 5 0 = -1, odds 0 1 5 1 = -1",
            "odds 0 2 5 0 = 0, odds 0 2 5 1 = 1");
    }

    private static void circle() {
        Script script = Script.car("18: BAD", THREE);
        bad(script, "circle ? 0", BAD, 3, 5, 6);
        bad(script, "circle 0 ?", BAD, 2, 3, 9);
        Script.car("18: BAD (not ABOARD, too)", THREE).calls(DOWN, "circle 1 0 = -1, circle 1 1 = -1, circle 0 0 = 2",
            "circle 0 1 = 0, circle 2 2 = -1");
        Script.car("18: BAD, alone", ONE).calls("circle 0 0 = -9, circle 0 1 = -9, circle 0 2 = -1, circle 0 -1 = -1",
            "circle 1 0 = -1");
    }

    private static void chair() {
        Script script = Script.car("19: BAD (alike ones)", THREE).calls("chair 0 0 = -1, chair 2 2 = -1, chair 3 3 = -1");
        bad(script, "chair ? 0", BAD, 3, 5, 6);
        bad(script, "chair 0 ?", BAD, 3, 5, 6);
        Script.car("19: BAD (not ABOARD, too)", THREE).calls(DOWN, "chair 1 0 = -1, chair 0 1 = -1, chair 0 2 = 0",
            "chair 2 0 = 0, boards 1 = 3, chair 0 1 = 0, chair 0 2 = 7");
    }

    private static void sawForget() {
        Script script = Script.car("20: BAD (alike ones)", THREE).calls("saw 0 0 = -1, saw 2 2 = -1, saw 3 3 = -1");
        bad(script, "saw ? 0", BAD, 3, 5, 6);
        bad(script, "saw 0 ?", BAD, 3, 5, 6);
        script.calls("count 2 = 0");
        Script.car("20: BAD (not ABOARD, too)", THREE).calls(DOWN, "saw 1 0 = -1, saw 0 1 = -1, count 2 = 0, saw 0 2 = 1",
            "saw 2 0 = 2");
        Script.car("20: FULL", THREE).calls("saw 0 1 = 1, saw 0 1 = 2, saw 1 2 = 3, saw 2 0 = 4, saw 1 0 = 5, saw 2 1 = 6",
            "saw 0 1 = -3, saw 0 0 = -1, count 2 = 6");
        Script.car("21: how much there was", THREE).calls("forget = 0, saw 0 1 = 1, forget = 1, forget = 0",
            "count 2 = 0").times(6, "saw 0 1").calls(
            "forget = 6, saw 0 2 = 1, laws 0 = 2");
    }

    private static void lawsLikely() {
        Script script = Script.car("22: BAD", THREE);
        bad(script, "laws ?", BAD, 3, 5, 6);
        script.calls(DOWN, "laws 1 = 7, laws 3 = -1");
        Script.car("22: as bits, none and all", THREE).calls("laws 0 = 7, saw 0 1 = 1, laws 0 = 5, saw 0 2 = 2, laws 0 = 0");
        Script.car("22: alone he thinks of nobody", "r5 5 0;r5 5 0;").calls("saw 0 1 = 1, laws 0 = 7, thinks 1 0 = 1",
            "rings 0 = 1, laws 0 = 0, likely = 0, forget = 1, likely = 3");
        Script.fresh("23: for nobody").calls("likely = 1, forget = 0, likely = 1");
        Script.car("23: the most", SIX).calls("likely = 729, rides = 1, rings 1 = 0, likely = 243");
        Script.car("23: of one who is left", THREE).calls("rides = 1, rings 1 = 0, rings 2 = 1, likely = 3");
    }

    private static void mark() {
        Script script = Script.car("24: NO: BAD", THREE);
        bad(script, "mark ? 0", NO, 6, 7, 100);
        bad(script, "mark 0 ?", NO, 3, 5, 6);
        bad(script, "mark 4 ?", NO, 3, 5, 6);
        script.calls("mark 6 3 = -1000000, trace = 0, mark 0 0 = 0, trace = 1");
        Script.car("24: the greatest", "r9 9 0;r9 9 0;").calls("mark 3 0 = 36, mark 1 1 = 18",
            "mark 4 1 = 10").times(99, "rides").calls("mark 5 0 = 108");
        Script.car("24: the least", "r0 9 1;r0 0 1;r0 0 1;r0 0 1;r0 0 1;r0 0 1;").calls("rides = 1, mark 2 0 = -5",
            "mark 4 0 = -5, mark 2 1 = -1, mark 2 2 = 0");
        Script.car("24: of one not ABOARD", THREE).calls(DOWN, "mark 0 1 = 4, mark 2 0 = -1, mark 3 1 = 10, mark 4 1 = 5",
            "mark 5 1 = 4");
    }

    private static void keepBack() {
        Script script = Script.car("25, 26: BAD", THREE);
        bad(script, "keep ?", BAD, 2, 3, 32);
        bad(script, "back ?", BAD, 2, 3, 32);
        Script.car("25: THE STOP", THREE).calls("keep 0 = 0").times(99, "rides").calls("keep 1 = 99, keep 0 = 99",
            "back 1 = 99");
        Script.car("26: STATE: none was kept", THREE).calls("back 0 = -2, back 1 = -2, rides = 1, keep 1 = 1, back 0 = -2",
            "now 0 = 1, back 1 = 1, keep 0 = 1, back 0 = 1");
        Script.car("26: once more, as it was kept", THREE).calls("rides = 1, keep 0 = 1, rides = 2, back 0 = 1, rides = 2",
            "rides = 3, thinks 0 2 = 10, back 0 = 1, now 0 = 1, now 2 = 3, latest 0 2 = 0, count 3 = 1");
        Script.car("26: from STOP 99", THREE).calls("keep 0 = 0").times(99, "rides").calls("rides = -2, back 0 = 0",
            "rides = 1, now 2 = 3");
    }

    private static void count() {
        Script script = Script.car("27: BAD", THREE);
        bad(script, "count ?", BAD, 5, 6, 100);
        Script.car("27: all of it, at the most", SIX + "l20;").times(6, "saw 0 1").times(11, "rides").times(120, "type 32")
            .calls("count 0 = 6, count 1 = 20, count 2 = 6, count 3 = 10, count 4 = 120");
        Script.car("27: those not ABOARD are RIDERS", THREE).calls(DOWN, "count 0 = 3, count 3 = 2");
    }
}
