/** Bounds of promises 16 to 21: the least wood, the best floors, the least a shutter is open, gales. */
final class PlanBounds extends Bounds {
    private PlanBounds() {
    }

    static void all() {
        leastSets();
        leastWood();
        leastRefused();
        leastAt();
        leastAtRefused();
        floors();
        floorsRefused();
        floorAt();
        floorAtRefused();
        openFor();
        openForRefused();
        gales();
        galesTake();
        galesRefused();
    }

    private static OvensAbove fire(String text, int... woods) {
        OvensAbove x = of(text);
        for (int w : woods) {
            x.quarter(w);
        }
        return x;
    }

    // ---- promise 16

    private static void leastSets() {
        promise(16);
        says("sets of them bits");
        says("bits of POTS");
        test("no POTS told of none", () -> is(in(NEW).least(0, 1), 0));
        test("no POTS told of five", () -> is(of("K2" + "P009991".repeat(5)).least(0, 3), 0));
        test("POT 0 alone", () -> is(of("K2P004419P009999").least(1, 1), 2));
        test("POT 4 alone", () -> is(of("K2P009999P009999P009999P009999P004419").least(16, 1), 2));
        test("all five", () -> is(of("K2" + "P004419".repeat(5)).least(31, 1), 2));
        test("all five, one of which can not be", () -> is(of("K2" + "P004419".repeat(4) + "P009919").least(31, 1), NONE));
        test("the other four", () -> is(of("K2" + "P004419".repeat(4) + "P009919").least(15, 1), 2));
    }

    private static void leastWood() {
        promise(16);
        says("LEAST WOOD for some POTS and n QUARTERS (1 .. 3): the least WOOD of all these QUARTERS together by which all told POTS are READY behind them");
        says("LEAST WOOD; NONE.");
        test("0, the least", () -> is(of("K2P000019").least(1, 1), 0));
        test("4, the most one QUARTER can want of a cold one", () -> is(of("K2P008819").least(1, 1), 4));
        test("18 in two QUARTERS are told in the third", () -> is(of("K2S055S191P109929").least(1, 3), 18));
        test("22: 9, 9, and 4 more", () -> is(most().least(3, 3), 22));
        test("22 can not be in two", () -> is(most().least(3, 2), NONE));
        test("READY ones want none", () -> is(fire("K2P000919", 1).least(1, 1), 0));
        test("READY ones among others", () -> is(fire("K2S000P000919P006619", 1).least(3, 1), 2));
        test("nothing is changed", () -> {
            changesNothing(x -> x.least(0, 3));
            changesNothingIn(SOME, x -> x.least(7, 3));
            changesNothingIn(MOST, x -> x.least(31, 3));
        });
        says("NONE: it can not be.");
        test("a HEAT that no WOOD makes", () -> is(of("K2P009919").least(1, 1), NONE));
        test("t 1 in one QUARTER", () -> is(of("K2P000019").least(1, 1), 0));
        test("t 2 in one QUARTER", () -> is(of("K2P000029").least(1, 1), NONE));
        test("t 3 in three QUARTERS", () -> is(of("K2P000039").least(1, 3), 0));
        test("t 4 in three QUARTERS", () -> is(of("K2P000049").least(1, 3), NONE));
        test("t 4, of which it has one, in three QUARTERS", () -> is(fire("K2P000049", 0).least(1, 3), 0));
        test("it would crack", () -> is(of("K2P004413").least(1, 1), NONE));
        test("it cracks not by two QUARTERS", () -> is(of("K2S000P004413").least(1, 2), 2));
        test("a CRACKED one", () -> is(in(MOST).least(8, 3), NONE));
        test("a BLED one", () -> is(in(MOST).least(4, 3), NONE));
        test("a READY one and a CRACKED one", () -> is(in(MOST).least(9, 3), NONE));
    }

    /** POT 0 is READY by 9 and 9 wood alone, and POT 1 by 4 behind these. */
    private static OvensAbove most() {
        return of("K2S055S191P109929P038919");
    }

    private static void leastRefused() {
        promise(16);
        says("BAD: pots (bits of POTS), n (1 .. 3).");
        test("n 1, the least", () -> is(of("K2P002219").least(1, 1), 1));
        test("n 3, the most", () -> is(of("K2P002219").least(1, 3), 1));
        test("n 0", () -> refused(BAD, x -> x.least(0, 0)));
        test("n 4", () -> refused(BAD, x -> x.least(0, 4)));
        test("n the least int", () -> refused(BAD, x -> x.least(0, MIN)));
        test("n the greatest int", () -> refused(BAD, x -> x.least(0, MAX)));
        test("the bit of POT 0 of none", () -> refusedIn(NEW, BAD, x -> x.least(1, 1)));
        test("the bit of POT 3 of three", () -> refusedIn(SOME, BAD, x -> x.least(8, 1)));
        test("the bit of POT 5", () -> refused(BAD, x -> x.least(32, 1)));
        test("a bit too many among others", () -> refused(BAD, x -> x.least(33, 1)));
        test("-1", () -> refused(BAD, x -> x.least(-1, 1)));
        test("the highest bit alone", () -> refused(BAD, x -> x.least(MIN, 1)));
        test("all bits but the highest", () -> refused(BAD, x -> x.least(MAX, 1)));
        test("all bits of three", () -> is(in(SOME).least(7, 1), NONE));
    }

    // ---- promise 17

    private static void woodsAre(OvensAbove x, int pots, int... due) {
        for (int i = 0; i < due.length; i++) {
            is(x.leastAt(pots, due.length, i), due[i]);
        }
    }

    private static void leastAt() {
        promise(17);
        says("WOOD of the i-th QUARTER (from 0) by it");
        test("one QUARTER", () -> woodsAre(of("K2P008819"), 1, 4));
        test("two QUARTERS", () -> woodsAre(of("K2S000P004413"), 1, 1, 1));
        test("three QUARTERS, 0 and 9, the least and the most", () -> woodsAre(of("K2S055S191P109919"), 1, 0, 9, 0));
        test("three QUARTERS with the most", () -> woodsAre(most(), 3, 9, 9, 4));
        test("no POTS told", () -> woodsAre(in(NEW), 0, 0, 0, 0));
        test("READY ones", () -> woodsAre(fire("K2P000919", 1), 1, 0, 0, 0));
        says("of like ones the first by the WOOD of the first QUARTER, then the second, ..");
        test("of 1, 0, 0 and 0, 1, 0 and 0, 0, 1", () -> woodsAre(of("K2S091P002219"), 1, 0, 0, 1));
        test("of 1, 1, 0 and 1, 0, 1 and 0, 1, 1", () -> woodsAre(of("K2S091P002229"), 1, 0, 1, 1));
        test("of 1, 1, 0 and 1, 0, 1, as 0 would crack", () -> {
            OvensAbove x = fire("K2S091S100P102222", 2);
            x.put(0, 0);
            is(x.least(1, 3), 2);
            woodsAre(x, 1, 1, 0, 1);
        });
        test("less WOOD goes ahead of a first QUARTER with none", () -> {
            OvensAbove x = of("K2S000S100P004439");
            is(x.least(1, 3), 2);
            woodsAre(x, 1, 2, 0, 0);
        });
        test("nothing is changed", () -> {
            changesNothing(x -> x.leastAt(0, 3, 2));
            changesNothingIn(SOME, x -> x.leastAt(7, 3, 0));
        });
    }

    private static void leastAtRefused() {
        promise(17);
        says("NONE: there is none such");
        test("i 0, the least", () -> is(of("K2P002219").leastAt(1, 1, 0), 1));
        test("i 2, the greatest of three", () -> is(of("K2P002219").leastAt(1, 3, 2), 1));
        test("i -1", () -> refusedWithPots(NONE, x -> x.leastAt(1, 3, -1)));
        test("i 1 of one", () -> refusedWithPots(NONE, x -> x.leastAt(1, 1, 1)));
        test("i 2 of two", () -> refusedWithPots(NONE, x -> x.leastAt(1, 2, 2)));
        test("i 3 of three", () -> refusedWithPots(NONE, x -> x.leastAt(1, 3, 3)));
        test("i 1 of one, no POTS told", () -> refused(NONE, x -> x.leastAt(0, 1, 1)));
        test("i the least int", () -> refused(NONE, x -> x.leastAt(0, 3, MIN)));
        test("i the greatest int", () -> refused(NONE, x -> x.leastAt(0, 3, MAX)));
        test("it can not be", () -> refusedIn(MOST, NONE, x -> x.leastAt(8, 3, 0)));
        says("there is none such. BAD: pots, n.");
        test("n 0", () -> refused(BAD, x -> x.leastAt(0, 0, 0)));
        test("n 4", () -> refused(BAD, x -> x.leastAt(0, 4, 0)));
        test("n the least int", () -> refused(BAD, x -> x.leastAt(0, MIN, 0)));
        test("n the greatest int", () -> refused(BAD, x -> x.leastAt(0, MAX, 0)));
        test("the bit of POT 0 of none", () -> refusedIn(NEW, BAD, x -> x.leastAt(1, 1, 0)));
        test("the bit of POT 3 of three", () -> refusedIn(SOME, BAD, x -> x.leastAt(8, 1, 0)));
        test("the bit of POT 5", () -> refused(BAD, x -> x.leastAt(32, 1, 0)));
        test("-1", () -> refused(BAD, x -> x.leastAt(-1, 1, 0)));
        test("the highest bit alone", () -> refused(BAD, x -> x.leastAt(MIN, 1, 0)));
        test("BAD pots are told ahead of NONE", () -> refused(BAD, x -> x.leastAt(32, 1, 1)));
        test("BAD n is told ahead of NONE", () -> refused(BAD, x -> x.leastAt(0, 4, 4)));
        test("BAD n 0 is told ahead of NONE", () -> refused(BAD, x -> x.leastAt(0, 0, -1)));
    }

    // ---- promise 18

    /** Five kilns, open by all tenths: with 1 wood kiln i is cold for i quarters, then has 20. */
    private static OvensAbove stairs(String pots) {
        OvensAbove x = of("K5" + pots);
        for (int i = 0; i < 5; i++) {
            x.open(i, 10);
        }
        return x;
    }

    /** POT i is READY in KILN i alone, or first there. */
    private static final String EACH_ITS_KILN = "P002292P000012P000022P000032P000042";
    private static final String EACH_TURNED = "P000042P000032P000022P000012P002292";

    private static void floors() {
        promise(18);
        says("so that most POTS are READY behind them");
        says("BEST FLOORS: how many POTS are READY.");
        test("no POTS", () -> is(of("K5").floors(1, 1), 0));
        test("none of five", () -> is(of("K2" + "P009919".repeat(5)).floors(1, 1), 0));
        test("one of one", () -> is(of("K2P000019").floors(1, 0), 1));
        test("five in one KILN", () -> is(of("K2" + "P000019".repeat(5)).floors(1, 0), 5));
        test("five, each in its own KILN of five", () -> is(stairs(EACH_ITS_KILN).floors(9, 1), 5));
        test("five, the other way round", () -> is(stairs(EACH_TURNED).floors(9, 1), 5));
        test("five, all in the last KILN of five: the last of all floors", () -> {
            is(stairs("P000042".repeat(5)).floors(9, 1), 5);
            is(stairs("P000042".repeat(5)).floors(4, 1), 5);
            is(stairs("P000042".repeat(5)).floors(3, 1), 0);
        });
        test("two KILNS: not all can be", () -> is(of("K2P000019P002219P004419").floors(1, 1), 2));
        test("all done ones are counted that are READY", () -> is(fire("K2P000919P000991", 1).floors(1, 1), 1));
        test("no KILN makes a CRACKED one READY", () -> is(fire("K2P000911", 1).floors(9, 0), 0));
        test("no KILN makes a BLED one READY", () -> is(fire("K2P010999P120999", 1, 0).floors(1, 0), 0));
        test("where it is now cracks it, another KILN does not", () -> is(of("K2P000911").floors(1, 1), 1));
        test("plain over SALT", () -> is(of("K2P012219P000019").floors(1, 1), 2));
        test("RAW over SALT, READY ahead of what goes up", () -> is(of("K2P012219P020019").floors(1, 1), 2));
        test("RAW over SALT, BLED by what goes up", () -> is(of("K2P012219P020129").floors(2, 1), 1));
        test("RAW over SALT that are not the lowest", () -> is(saltInTheMiddle().floors(3, 1), 1));
        test("RAW over done SALT, as the SHUTTER is now", () -> {
            OvensAbove x = fire("K2S000P010919P020019", 1);
            is(x.floors(1, 0), 2);
            x.open(0, 5);
            is(x.floors(1, 0), 1);
            x.open(0, 0);
            is(x.floors(1, 0), 2);
        });
        test("RAW beside SALT", () -> is(of("K2P010999P120929").floors(2, 1), 1));
        says("BEST FLOORS for n QUARTERS with w WOOD each");
        test("n 1, the least", () -> is(of("K2P000029P000019").floors(1, 0), 1));
        test("n 9, the most", () -> is(of("K2P000099").floors(9, 0), 1));
        test("n 8 are not enough for t 9", () -> is(of("K2P000099").floors(8, 0), 0));
        test("w 0, the least", () -> is(of("K2P002219P000019").floors(1, 0), 1));
        test("w 9, the most", () -> is(of("K2S055P109919P000019").floors(2, 9), 2));
        test("nothing is changed", () -> changesNothing(x -> x.floors(9, 4)));
    }

    private static void floorsRefused() {
        promise(18);
        says("how many POTS are READY. BAD: n, w.");
        test("n 0", () -> refused(BAD, x -> x.floors(0, 1)));
        test("n 10", () -> refused(BAD, x -> x.floors(10, 1)));
        test("n the least int", () -> refused(BAD, x -> x.floors(MIN, 1)));
        test("n the greatest int", () -> refused(BAD, x -> x.floors(MAX, 1)));
        test("w -1", () -> refused(BAD, x -> x.floors(1, -1)));
        test("w 10", () -> refused(BAD, x -> x.floors(1, 10)));
        test("w the least int", () -> refused(BAD, x -> x.floors(1, MIN)));
        test("w the greatest int", () -> refused(BAD, x -> x.floors(1, MAX)));
    }

    /** With 1 wood SALT is READY in KILN 1 alone, by 30, and RAW in KILN 2 alone, by 10 that went up. */
    private static OvensAbove saltInTheMiddle() {
        OvensAbove x = of("K3S200P013319P021119");
        x.open(0, 10);
        return x;
    }

    // ---- promise 19

    private static void floorsAre(OvensAbove x, int n, int w, int... due) {
        for (int i = 0; i < due.length; i++) {
            is(x.floorAt(i, n, w), due[i]);
        }
    }

    private static void floorAt() {
        promise(19);
        says("The KILN of a POT in them.");
        test("KILNS 0 .. 4 for POTS 0 .. 4", () -> floorsAre(stairs(EACH_ITS_KILN), 9, 1, 0, 1, 2, 3, 4));
        test("KILNS 4 .. 0 for POTS 0 .. 4", () -> floorsAre(stairs(EACH_TURNED), 9, 1, 4, 3, 2, 1, 0));
        test("KILN 4 for all of five", () -> floorsAre(stairs("P000042".repeat(5)), 9, 1, 4, 4, 4, 4, 4));
        test("plain over SALT in the last KILNS", () -> floorsAre(stairs("P010032P000042"), 9, 1, 3, 4));
        test("plain over SALT in the first KILNS", () -> floorsAre(stairs("P012292P000012"), 9, 1, 0, 1));
        test("RAW over SALT, READY ahead of what goes up", () -> floorsAre(of("K2P012219P020019"), 1, 1, 0, 1));
        test("RAW over SALT that are not the lowest", () -> floorsAre(saltInTheMiddle(), 3, 1, 0, 2));
        test("n 1, the least", () -> floorsAre(of("K2P000019P002219"), 1, 1, 1, 0));
        test("n 9, the most", () -> floorsAre(of("K2S000P000099P002292"), 9, 1, 1, 0));
        test("w 0, the least", () -> floorsAre(of("K2P100019"), 1, 0, 0));
        test("w 9, the most", () -> floorsAre(of("K2P000019"), 1, 9, 1));
        says("the KILN for each POT that is not done (done ones stay)");
        test("a READY one stays in the last KILN", () -> floorsAre(fire("K5P400919P400999", 0), 1, 0, 4, 0));
        test("a CRACKED one stays", () -> floorsAre(fire("K2P101911", 2, 0), 1, 0, 1));
        test("a BLED one stays", () -> floorsAre(in(MOST), 1, 0, 0, 1, 2, 0, 0));
        test("all are done", () -> floorsAre(fire("K3P200919P100919P000911", 1), 9, 9, 2, 1, 0));
        says("of like ones the first by the KILN of POT 0, then POT 1, ..");
        test("none can be READY: all in the lowest", () -> floorsAre(of("K5P409999P309999"), 1, 0, 0, 0));
        test("all KILNS do: all in the lowest", () -> floorsAre(of("K5" + "P400019".repeat(5)), 1, 0, 0, 0, 0, 0, 0));
        test("POT 0 is in the first that does", () -> floorsAre(of("K5P000019P000999"), 1, 1, 1, 0));
        test("one of RAW and SALT: RAW, told first, is low", () -> floorsAre(of("K2P120929P110999"), 2, 1, 0, 0));
        test("one of SALT and RAW: both are low", () -> floorsAre(of("K2P014619P122319"), 2, 2, 0, 0));
        test("both of SALT and RAW: both are high", () -> floorsAre(of("K2P014619P122319"), 3, 2, 1, 1));
        test("nothing is changed", () -> {
            changesNothingIn(SOME, x -> x.floorAt(1, 3, 3));
            changesNothingIn(MOST, x -> x.floorAt(4, 9, 9));
        });
    }

    private static void floorAtRefused() {
        promise(19);
        says("UNKNOWN; BAD.");
        test("POT -1", () -> refused(UNKNOWN, x -> x.floorAt(-1, 1, 1)));
        test("POT 5", () -> refused(UNKNOWN, x -> x.floorAt(5, 1, 1)));
        test("POT 0 of none", () -> refusedIn(NEW, UNKNOWN, x -> x.floorAt(0, 1, 1)));
        test("POT 3 of three", () -> refusedIn(SOME, UNKNOWN, x -> x.floorAt(3, 1, 1)));
        test("POT the least int", () -> refused(UNKNOWN, x -> x.floorAt(MIN, 1, 1)));
        test("POT the greatest int", () -> refused(UNKNOWN, x -> x.floorAt(MAX, 1, 1)));
        test("n 0", () -> refusedWithPots(BAD, x -> x.floorAt(0, 0, 1)));
        test("n 10", () -> refusedWithPots(BAD, x -> x.floorAt(2, 10, 1)));
        test("n the least int", () -> refusedWithPots(BAD, x -> x.floorAt(2, MIN, 1)));
        test("n the greatest int", () -> refusedWithPots(BAD, x -> x.floorAt(2, MAX, 1)));
        test("w -1", () -> refusedWithPots(BAD, x -> x.floorAt(0, 1, -1)));
        test("w 10", () -> refusedWithPots(BAD, x -> x.floorAt(2, 1, 10)));
        test("w the least int", () -> refusedWithPots(BAD, x -> x.floorAt(2, 1, MIN)));
        test("w the greatest int", () -> refusedWithPots(BAD, x -> x.floorAt(2, 1, MAX)));
        test("UNKNOWN is told ahead of BAD n", () -> refused(UNKNOWN, x -> x.floorAt(5, 0, 1)));
        test("UNKNOWN is told ahead of BAD w", () -> refused(UNKNOWN, x -> x.floorAt(-1, 1, 10)));
    }

    // ---- promise 20

    private static void openFor() {
        promise(20);
        says("the fewest tenths (0 .. ten less its DAMPER) by which a told KILN's SHUTTER must be open (others as they are)");
        says("so that it is READY behind n QUARTERS with w WOOD each; NONE.");
        says("OPEN FOR; NONE.");
        test("0, the fewest", () -> is(of("K2P000019").openFor(0, 0, 1, 0), 0));
        test("1", () -> is(of("K2P101919").openFor(0, 0, 2, 5), 1));
        test("10, the most", () -> is(of("K2P108819").openFor(0, 0, 2, 4), 10));
        test("9 of ten less 1", () -> is(of("K2S001P109919").openFor(0, 0, 2, 5), 9));
        test("9 of ten less 2: it can not be", () -> is(of("K2S002P109919").openFor(0, 0, 2, 5), NONE));
        test("0 of ten less all ten", () -> is(allDamped("P000019").openFor(0, 0, 1, 0), 0));
        test("1 of ten less all ten: it can not be", () -> is(allDamped("P101919").openFor(0, 0, 2, 5), NONE));
        test("how it is open now counts not", () -> {
            OvensAbove x = of("K2S090P103919");
            is(x.openFor(0, 0, 2, 5), 3);
            is(x.kiln(0, 1), 9);
        });
        test("others as they are", () -> {
            OvensAbove x = of("K3S190P204519");
            is(x.openFor(0, 0, 3, 5), 5);
            x.open(1, 5);
            is(x.openFor(0, 0, 3, 5), 8);
        });
        test("the last KILN of five", () -> is(of("K5P000019").openFor(4, 0, 1, 0), 0));
        test("the last KILN of two lets out", () -> {
            OvensAbove x = fire("K2S090S100P101219", 5, 0);
            x.open(0, 0);
            is(x.openFor(1, 0, 1, 0), 8);
        });
        test("a READY one wants none", () -> is(fire("K2P000919", 1).openFor(0, 0, 1, 9), 0));
        test("a CRACKED one", () -> is(in(MOST).openFor(0, 3, 9, 0), NONE));
        test("a BLED one", () -> is(in(MOST).openFor(0, 2, 9, 0), NONE));
        test("POT 4 of five", () -> is(of("K2P000999P000999P000999P000999P103919").openFor(0, 4, 2, 5), 3));
        test("n 1, the least", () -> is(of("K2P008819").openFor(0, 0, 1, 4), 0));
        test("n 9, the most", () -> is(of("K2P000099").openFor(1, 0, 9, 0), 0));
        test("n 8 are not enough for t 9", () -> is(of("K2P000099").openFor(1, 0, 8, 0), NONE));
        test("w 0, the least", () -> is(fire("K2S000P103919", 5).openFor(0, 0, 1, 0), 3));
        test("w 9, the most", () -> is(of("K2P109919").openFor(0, 0, 2, 9), 5));
        test("nothing is changed", () -> {
            changesNothingIn(SOME, x -> x.openFor(1, 1, 9, 9));
            changesNothingIn(MOST, x -> x.openFor(3, 4, 9, 9));
        });
    }

    private static OvensAbove allDamped(String pot) {
        OvensAbove x = of("K2S000" + pot);
        x.damp(0, 10);
        return x;
    }

    private static void openForRefused() {
        promise(20);
        says("UNKNOWN: kiln, pot; BAD: n, w");
        test("KILN -1", () -> refused(UNKNOWN, x -> x.openFor(-1, 0, 1, 1)));
        test("KILN 5", () -> refused(UNKNOWN, x -> x.openFor(5, 0, 1, 1)));
        test("KILN 3 of three", () -> refusedIn(SOME, UNKNOWN, x -> x.openFor(3, 0, 1, 1)));
        test("KILN the least int", () -> refused(UNKNOWN, x -> x.openFor(MIN, 0, 1, 1)));
        test("KILN the greatest int", () -> refused(UNKNOWN, x -> x.openFor(MAX, 0, 1, 1)));
        test("POT -1", () -> refused(UNKNOWN, x -> x.openFor(0, -1, 1, 1)));
        test("POT 5", () -> refused(UNKNOWN, x -> x.openFor(0, 5, 1, 1)));
        test("POT 0 of none", () -> refusedIn(NEW, UNKNOWN, x -> x.openFor(0, 0, 1, 1)));
        test("POT 3 of three", () -> refusedIn(SOME, UNKNOWN, x -> x.openFor(0, 3, 1, 1)));
        test("POT the least int", () -> refused(UNKNOWN, x -> x.openFor(0, MIN, 1, 1)));
        test("POT the greatest int", () -> refused(UNKNOWN, x -> x.openFor(0, MAX, 1, 1)));
        test("n 0", () -> refusedWithPots(BAD, x -> x.openFor(0, 0, 0, 1)));
        test("n 10", () -> refusedWithPots(BAD, x -> x.openFor(2, 2, 10, 1)));
        test("n the least int", () -> refusedWithPots(BAD, x -> x.openFor(2, 2, MIN, 1)));
        test("n the greatest int", () -> refusedWithPots(BAD, x -> x.openFor(2, 2, MAX, 1)));
        test("w -1", () -> refusedWithPots(BAD, x -> x.openFor(0, 0, 1, -1)));
        test("w 10", () -> refusedWithPots(BAD, x -> x.openFor(2, 2, 1, 10)));
        test("w the least int", () -> refusedWithPots(BAD, x -> x.openFor(2, 2, 1, MIN)));
        test("w the greatest int", () -> refusedWithPots(BAD, x -> x.openFor(2, 2, 1, MAX)));
        test("UNKNOWN KILN is told ahead of BAD n", () -> refused(UNKNOWN, x -> x.openFor(5, 0, 0, 1)));
        test("UNKNOWN POT is told ahead of BAD n", () -> refused(UNKNOWN, x -> x.openFor(0, 5, 0, 1)));
        test("UNKNOWN KILN is told ahead of BAD w", () -> refused(UNKNOWN, x -> x.openFor(-1, 0, 1, 10)));
        test("UNKNOWN POT is told ahead of BAD w", () -> refused(UNKNOWN, x -> x.openFor(0, -1, 1, 10)));
    }

    // ---- promise 21

    private static void chance(OvensAbove x, int n, int w, int tenths, long upper, long lower) {
        is(x.gales(0, n, w, tenths, true), upper);
        is(x.gales(0, n, w, tenths, false), lower);
    }

    /** It BEARS 90: cracked by 100, not by 90. */
    private static OvensAbove barely() {
        return of("K2S000P000999");
    }

    private static void gales() {
        promise(21);
        says("the chance that a POT is CRACKED behind n QUARTERS (1 .. 8) with w WOOD each, a FRACTION");
        says("FRACTIONS are told above (upper = true), below, in least terms.");
        test("never: 0 by 1", () -> chance(of("K2P000999"), 8, 0, 5, 0, 1));
        test("always: 1 by 1", () -> chance(of("K2P000911"), 8, 9, 5, 1, 1));
        test("n 1, the least", () -> chance(barely(), 1, 5, 3, 7, 10));
        test("n 8, the most", () -> chance(bearsTen(0, 5, 5), 8, 0, 1, 56953279, 100000000));
        test("one of two", () -> chance(barely(), 1, 5, 5, 1, 2));
        test("in least terms", () -> chance(barely(), 1, 5, 6, 2, 5));
        test("w 0, the least", () -> chance(barely(), 1, 0, 5, 0, 1));
        test("w 4: 80 are borne", () -> chance(barely(), 1, 4, 0, 0, 1));
        test("w 9, the most, of a THICK one", () -> chance(of("K2S000P030999"), 1, 9, 5, 0, 1));
        test("a READY one", () -> chance(fire("K2P000911", 0), 8, 9, 5, 0, 1));
        test("a CRACKED one", () -> chance(fire("K2P000911", 1), 8, 0, 5, 1, 1));
        test("a CRACKED one in all gales", () -> chance(fire("K2P000911", 1), 8, 0, 10, 1, 1));
        test("a BLED one", () -> {
            OvensAbove x = in(MOST);
            is(x.gales(2, 8, 9, 5, true), 0);
            is(x.gales(2, 8, 9, 5, false), 1);
        });
        test("POT 4 of five", () -> {
            OvensAbove x = of("K2P100999P100999P100999P100999P000999");
            is(x.gales(4, 1, 5, 1, true), 9);
            is(x.gales(4, 1, 5, 1, false), 10);
            is(x.gales(3, 1, 5, 1, true), 0);
        });
        test("nothing is changed", () -> {
            changesNothingIn(SOME, x -> x.gales(1, 8, 9, 5, true));
            changesNothingIn(MOST, x -> x.gales(4, 8, 9, 5, false));
        });
        says("GALES: in each QUARTER by x tenths (0 .. 10)");
        test("x 0: no gale", () -> chance(barely(), 1, 5, 0, 1, 1));
        test("x 1", () -> chance(barely(), 1, 5, 1, 9, 10));
        test("x 9", () -> chance(barely(), 1, 5, 9, 1, 10));
        test("x 10: a gale in each QUARTER", () -> chance(barely(), 1, 5, 10, 0, 1));
        test("x 10 in eight", () -> chance(bearsTen(0, 5, 5), 8, 0, 10, 1, 1));
        test("x 0 in eight", () -> chance(bearsTen(0, 5, 5), 8, 0, 0, 0, 1));
    }

    /** A POT that BEARS 10 in KILN 0, which had 20 less told tenths, then half of it and w wood more. */
    private static OvensAbove bearsTen(int tenths, int half, int w) {
        OvensAbove x = fire("K2S000S100P100991", 1);
        x.damp(0, tenths);
        x.quarter(0);
        x.damp(0, half);
        x.quarter(w);
        x.damp(0, 0);
        x.put(0, 0);
        return x;
    }

    private static void galesTake() {
        promise(21);
        says("a gale takes a tenth of the HEAT (cut) of each KILN at its end, ahead of what POTS feel");
        test("10 of 100 are borne by one that BEARS 10", () -> chance(bearsTen(10, 0, 5), 1, 0, 5, 0, 1));
        test("10 of 109, as it is cut", () -> {
            OvensAbove x = bearsTen(1, 5, 5);
            is(x.kiln(0, 0), 109);
            chance(x, 1, 0, 5, 0, 1);
        });
        test("11 of 110 are not", () -> {
            OvensAbove x = bearsTen(0, 5, 5);
            is(x.kiln(0, 0), 110);
            chance(x, 1, 0, 5, 1, 2);
            chance(x, 2, 0, 5, 3, 4);
        });
        test("of the last KILN, too", () -> chance(upper("P100999"), 1, 0, 3, 7, 10));
        test("at its end: what went up is by the HEAT that was", () -> chance(upper("P100999"), 1, 0, 10, 0, 1));
        test("in the next QUARTER by what the gale left", () -> chance(of("K2S000P000999"), 2, 5, 5, 3, 4));
        test("ahead of what POTS feel: READY by a gale", () -> chance(of("K2S000P009919"), 2, 5, 5, 1, 2));
        test("ahead of what POTS feel: READY but for a gale", () -> {
            OvensAbove x = fire("K2S000S100P104416", 5);
            x.put(0, 0);
            x.open(0, 10);
            chance(x, 1, 2, 5, 1, 2);
            chance(x, 8, 2, 1, 1, 10);
        });
    }

    /** 100 in KILN 0, all of which goes up. */
    private static OvensAbove upper(String pot) {
        OvensAbove x = fire("K2S100" + pot, 5);
        x.open(0, 10);
        return x;
    }

    private static void galesRefused() {
        promise(21);
        says("GALES. UNKNOWN; BAD: n (1 .. 8), w, x.");
        test("POT -1", () -> refused(UNKNOWN, x -> x.gales(-1, 1, 1, 1, true)));
        test("POT 5", () -> refused(UNKNOWN, x -> x.gales(5, 1, 1, 1, false)));
        test("POT 0 of none", () -> refusedIn(NEW, UNKNOWN, x -> x.gales(0, 1, 1, 1, true)));
        test("POT 3 of three", () -> refusedIn(SOME, UNKNOWN, x -> x.gales(3, 1, 1, 1, true)));
        test("POT the least int", () -> refused(UNKNOWN, x -> x.gales(MIN, 1, 1, 1, true)));
        test("POT the greatest int", () -> refused(UNKNOWN, x -> x.gales(MAX, 1, 1, 1, true)));
        test("n 0", () -> refusedWithPots(BAD, x -> x.gales(0, 0, 1, 1, true)));
        test("n 9", () -> refusedWithPots(BAD, x -> x.gales(2, 9, 1, 1, false)));
        test("n the least int", () -> refusedWithPots(BAD, x -> x.gales(2, MIN, 1, 1, true)));
        test("n the greatest int", () -> refusedWithPots(BAD, x -> x.gales(2, MAX, 1, 1, false)));
        test("w -1", () -> refusedWithPots(BAD, x -> x.gales(0, 1, -1, 1, true)));
        test("w 10", () -> refusedWithPots(BAD, x -> x.gales(2, 1, 10, 1, false)));
        test("w the least int", () -> refusedWithPots(BAD, x -> x.gales(2, 1, MIN, 1, true)));
        test("w the greatest int", () -> refusedWithPots(BAD, x -> x.gales(2, 1, MAX, 1, false)));
        test("x -1", () -> refusedWithPots(BAD, x -> x.gales(0, 1, 1, -1, true)));
        test("x 11", () -> refusedWithPots(BAD, x -> x.gales(2, 1, 1, 11, false)));
        test("x the least int", () -> refusedWithPots(BAD, x -> x.gales(2, 1, 1, MIN, true)));
        test("x the greatest int", () -> refusedWithPots(BAD, x -> x.gales(2, 1, 1, MAX, false)));
        test("UNKNOWN is told ahead of BAD n", () -> refused(UNKNOWN, x -> x.gales(5, 9, 1, 1, true)));
        test("UNKNOWN is told ahead of BAD w", () -> refused(UNKNOWN, x -> x.gales(-1, 1, 10, 1, true)));
        test("UNKNOWN is told ahead of BAD x", () -> refused(UNKNOWN, x -> x.gales(5, 1, 1, 11, false)));
    }
}
