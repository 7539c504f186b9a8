/** Bounds of promises 12 to 15: quarters, what they do to heat and pots, the row, and what is ahead. */
final class FiredBounds extends Bounds {
    private FiredBounds() {
    }

    static void all() {
        wood();
        heat();
        heatOut();
        cracksUp();
        cracksDown();
        cracksThick();
        bleeds();
        bleedsWhere();
        wants();
        ready();
        order();
        doneBits();
        row();
        undo();
        undoStays();
        warm();
        then();
        thenStates();
    }

    /** What w the told quarters are fired with. */
    private static OvensAbove fire(OvensAbove x, int... woods) {
        for (int w : woods) {
            x.quarter(w);
        }
        return x;
    }

    private static OvensAbove fire(String text, int... woods) {
        return fire(of(text), woods);
    }

    private static void heats(OvensAbove x, int... due) {
        for (int i = 0; i < due.length; i++) {
            is(x.kiln(i, 0), due[i]);
        }
    }

    /** Kiln 0 with its shutter shut: a quarter with its damper at d tenths. */
    private static void damped(OvensAbove x, int d, int w) {
        x.damp(0, d);
        x.quarter(w);
    }

    // ---- promise 12

    private static void wood() {
        promise(12);
        says("A QUARTER with w WOOD (0 .. 9)");
        test("w 0, the least", () -> heats(fire("K2", 0), 0, 0));
        test("w 1", () -> heats(fire("K2", 1), 20, 0));
        test("w 9, the greatest", () -> heats(fire("K2", 9), 180, 0));
        says("BAD: w");
        test("w -1", () -> refused(BAD, x -> x.quarter(-1)));
        test("w 10", () -> refused(BAD, x -> x.quarter(10)));
        test("w the least int", () -> refused(BAD, x -> x.quarter(MIN)));
        test("w the greatest int", () -> refused(BAD, x -> x.quarter(MAX)));
        says("20 times w come into KILN 0");
        test("to what is there", () -> heats(fire("K2S000", 9, 9), 360, 0));
        test("no wood adds none", () -> heats(fire("K2S000", 9, 0), 180, 0));
        test("500 quarters with the most wood", () -> {
            OvensAbove x = of("K2S000");
            for (int i = 0; i < 500; i++) {
                x.quarter(9);
            }
            heats(x, 90000, 0);
            x.open(0, 10);
            x.quarter(0);
            heats(x, 0, 90000);
        });
    }

    private static void heat() {
        promise(12);
        says("from each KILN its HEAT times the tenths of its SHUTTER, by ten, cut, goes up to the next KILN");
        test("no tenths", () -> heats(fire("K2S000", 5, 0), 100, 0));
        test("one tenth", () -> heats(fire("K2S010", 5, 0), 90, 10));
        test("nine tenths", () -> heats(fire("K2S090", 5, 0), 10, 90));
        test("all ten tenths", () -> {
            OvensAbove x = of("K2");
            x.open(0, 10);
            heats(fire(x, 5, 0), 0, 100);
        });
        test("a HEAT of 1 goes up by all ten tenths alone", () -> {
            heats(withHeatOne(9), 1, 0);
            heats(withHeatOne(10), 0, 1);
        });
        test("9 by five tenths is cut to 4", () -> {
            OvensAbove x = withHeatNine();
            x.damp(0, 0);
            x.open(0, 5);
            heats(fire(x, 0), 5, 4);
        });
        test("SHUTTER and DAMPER are cut each for itself: 1 stays of 9", () -> {
            OvensAbove x = withHeatNine();
            x.damp(0, 5);
            x.open(0, 5);
            heats(fire(x, 0), 1, 4);
            is(x.about(4), 90 + 1 + 4);
        });
        test("through five KILNS, one a QUARTER", () -> {
            OvensAbove x = of("K5");
            for (int i = 0; i < 5; i++) {
                x.open(i, 10);
            }
            heats(fire(x, 1), 20, 0, 0, 0, 0);
            heats(fire(x, 0), 0, 20, 0, 0, 0);
            heats(fire(x, 0), 0, 0, 20, 0, 0);
            heats(fire(x, 0), 0, 0, 0, 20, 0);
            heats(fire(x, 0), 0, 0, 0, 0, 20);
            is(x.about(4), 0);
            heats(fire(x, 0), 0, 0, 0, 0, 0);
            is(x.about(4), 20);
        });
        says("(All by the HEAT that was.)");
        test("the WOOD of this QUARTER goes not up in it", () -> heats(fire("K2S090", 5), 100, 0));
        test("what comes up goes not on in this QUARTER", () -> heats(fire("K3S090S190", 5, 0), 10, 90, 0));
        test("by all five at once", () -> {
            OvensAbove x = fire("K5S050S150S250S350S450", 8, 0, 0, 0, 0);
            heats(x, 10, 40, 60, 40, 10);
        });
    }

    /** 100, less nine tenths, less a tenth. */
    private static OvensAbove withHeatNine() {
        OvensAbove x = of("K2S009");
        fire(x, 5, 0);
        damped(x, 1, 0);
        heats(x, 9);
        return x;
    }

    private static OvensAbove withHeatOne(int shutter) {
        OvensAbove x = withHeatNine();
        damped(x, 9, 0);
        heats(x, 1);
        x.damp(0, 0);
        x.open(0, shutter);
        return fire(x, 0);
    }

    private static void heatOut() {
        promise(12);
        says("(from the last one: out), as much of its DAMPER goes out");
        test("the last of two", () -> {
            OvensAbove x = fire("K2S090S190", 5, 0, 0);
            heats(x, 1, 18);
            is(x.about(4), 81);
        });
        test("the last of five", () -> {
            OvensAbove x = of("K5");
            for (int i = 0; i < 4; i++) {
                x.open(i, 10);
            }
            heats(fire(x, 1, 0, 0, 0, 0, 0), 0, 0, 0, 0, 10);
            is(x.about(4), 10);
        });
        test("a shut one lets nothing out", () -> is(fire("K2S090S100", 5, 0, 0).about(4), 0));
        test("one tenth of a DAMPER", () -> {
            OvensAbove x = fire("K2S001", 5, 0);
            heats(x, 90, 0);
            is(x.about(4), 10);
        });
        test("all ten tenths of a DAMPER", () -> {
            OvensAbove x = fire("K2S000", 5);
            damped(x, 10, 0);
            heats(x, 0, 0);
            is(x.about(4), 100);
        });
        test("a DAMPER cut to none", () -> {
            OvensAbove x = withHeatNine();
            int out = x.about(4);
            damped(x, 1, 0);
            heats(x, 9, 0);
            is(x.about(4), out);
        });
        test("the DAMPER of the last one", () -> {
            OvensAbove x = fire("K2S090S109", 5, 0, 0);
            heats(x, 1, 18);
            is(x.about(4), 81);
        });
    }

    /** A pot that is put into kiln 0 when its heat is as told: what comes in one quarter more is its jump. */
    private static OvensAbove putInto(String pot, int... woods) {
        OvensAbove x = fire("K2S000S100" + pot, woods);
        is(x.pot(0, 7), 0);
        x.put(0, 0);
        return x;
    }

    private static void cracksUp() {
        promise(12);
        says("it is CRACKED, if the HEAT in its KILN is more or less by more than it BEARS than it was");
        test("no jump", () -> is(fire("K2P000911", 0).pot(0, 7), 1));
        test("20 more, it BEARS 20", () -> is(fire("K2P000992", 1).pot(0, 7), 0));
        test("20 more, it BEARS 10", () -> is(fire("K2P000991", 1).pot(0, 7), 2));
        test("10 more, it BEARS 10, the least", () -> {
            OvensAbove x = putInto("P100991", 1);
            damped(x, 5, 1);
            heats(x, 30);
            is(x.pot(0, 7), 0);
        });
        test("11 more, it BEARS 10", () -> {
            OvensAbove x = putInto("P100991", 1);
            x.put(0, 1);
            damped(x, 1, 0);
            heats(x, 18);
            x.put(0, 0);
            damped(x, 5, 1);
            heats(x, 29);
            is(x.pot(0, 7), 2);
        });
        test("90 more, it BEARS 90, the most", () -> {
            OvensAbove x = putInto("P100999", 1);
            damped(x, 5, 5);
            heats(x, 110);
            is(x.pot(0, 7), 0);
        });
        test("91 more, it BEARS 90", () -> {
            OvensAbove x = fire("K2S000S100P000999", 1);
            damped(x, 1, 0);
            damped(x, 5, 5);
            heats(x, 109);
            is(x.pot(0, 7), 2);
        });
    }

    private static void cracksDown() {
        promise(12);
        says("more or less by more than it BEARS");
        test("10 less, it BEARS 10", () -> {
            OvensAbove x = putInto("P100991", 1);
            damped(x, 5, 0);
            heats(x, 10);
            is(x.pot(0, 7), 0);
        });
        test("11 less, it BEARS 10", () -> {
            OvensAbove x = putInto("P100991", 1);
            x.put(0, 1);
            damped(x, 2, 0);
            heats(x, 16);
            x.put(0, 0);
            damped(x, 7, 0);
            heats(x, 5);
            is(x.pot(0, 7), 2);
        });
        test("90 less, it BEARS 90", () -> {
            OvensAbove x = putInto("P100999", 5);
            damped(x, 9, 0);
            heats(x, 10);
            is(x.pot(0, 7), 0);
        });
        test("100 less, it BEARS 90", () -> {
            OvensAbove x = putInto("P100999", 5);
            damped(x, 10, 0);
            heats(x, 0);
            is(x.pot(0, 7), 2);
        });
        test("being put into another HEAT is no jump", () -> {
            OvensAbove x = putInto("P100991", 9);
            is(x.quarter(0), 0);
            is(x.pot(0, 7), 0);
        });
    }

    private static void cracksThick() {
        promise(12);
        says("3 THICK (it BEARS twice as much)");
        test("20 more, it BEARS twice 10", () -> is(fire("K2P030991", 1).pot(0, 7), 0));
        test("40 more, it BEARS twice 10", () -> is(fire("K2P030991", 2).pot(0, 7), 2));
        test("21 more, it BEARS twice 10", () -> {
            OvensAbove x = fire("K2S000S100P130991", 2);
            damped(x, 4, 0);
            heats(x, 24);
            x.put(0, 0);
            damped(x, 8, 2);
            heats(x, 45);
            is(x.pot(0, 7), 2);
        });
        test("180 more, it BEARS twice 90, the most", () -> is(fire("K2P030999", 9).pot(0, 7), 0));
        test("181 more, it BEARS twice 90", () -> {
            OvensAbove x = fire("K2S000P130999", 1);
            damped(x, 9, 9);
            damped(x, 0, 9);
            heats(x, 362);
            x.open(0, 5);
            is(x.quarter(0), 1);
            heats(x, 181, 181);
            is(x.pot(0, 7), 2);
        });
        test("180 more in the upper one", () -> {
            OvensAbove x = fire("K2S000P130999", 9, 9);
            x.open(0, 5);
            is(x.quarter(0), 0);
            heats(x, 180, 180);
        });
        test("20 less, it BEARS twice 10", () -> {
            OvensAbove x = putInto("P130991", 1);
            damped(x, 10, 0);
            is(x.pot(0, 7), 0);
        });
        test("RAW BEARS no more than it is told", () -> is(fire("K2P020991", 1).pot(0, 7), 2));
        test("SALT BEARS no more than it is told", () -> is(fire("K2P010991", 1).pot(0, 7), 2));
    }

    /** SALT in kiln 0 and RAW in kiln 1; 2 of heat in kiln 0, of which the tenths go up. */
    private static OvensAbove overTwo(int tenths) {
        OvensAbove x = fire("K2S009P010999P120999", 1, 0);
        heats(x, 2, 0);
        x.damp(0, 0);
        x.open(0, tenths);
        return fire(x, 0);
    }

    private static void bleeds() {
        promise(12);
        says("if it is RAW, heat went up into its KILN in this QUARTER, and a SALT POT (a done one, too) is in the KILN below");
        test("no heat goes up, as the SHUTTER is shut", () -> is(overTwo(0).pot(1, 7), 0));
        test("2 by four tenths is cut to none", () -> is(overTwo(4).pot(1, 7), 0));
        test("2 by five tenths is 1", () -> is(overTwo(5).pot(1, 7), 3));
        test("no heat goes up, as all is cold", () -> is(fire("K2P010999P120999", 0).pot(1, 7), 0));
        test("none yet in the first QUARTER", () -> is(fire("K2P010999P120999", 1).pot(1, 7), 0));
        test("heat that went up in the QUARTER before counts not", () -> {
            OvensAbove x = fire("K2P010999P020999", 1, 1);
            x.open(0, 0);
            x.put(1, 1);
            is(x.quarter(1), 0);
            is(x.pot(1, 7), 0);
        });
        test("what goes out by a DAMPER goes not up", () -> {
            OvensAbove x = fire("K2S000P010999P120999", 1);
            damped(x, 10, 0);
            is(x.pot(1, 7), 0);
        });
        test("plain over SALT bleeds not", () -> is(fire("K2P010999P100999", 1, 1).pot(1, 7), 0));
        test("SALT over SALT bleeds not", () -> is(fire("K2P010999P110999", 1, 1).pot(1, 7), 0));
        test("THICK over SALT bleeds not", () -> is(fire("K2P010999P130999", 1, 1).pot(1, 7), 0));
        test("RAW over RAW bleeds not", () -> is(fire("K2P020999P120999", 1, 1).pot(1, 7), 0));
        test("RAW over plain bleeds not", () -> is(fire("K2P000999P120999", 1, 1).pot(1, 7), 0));
        test("RAW over THICK bleeds not", () -> is(fire("K2P030999P120999", 1, 1).pot(1, 7), 0));
        test("a READY SALT POT, too", () -> is(fire("K2P010919P120999", 1, 1).pot(1, 7), 3));
        test("a CRACKED SALT POT, too", () -> is(fire("K2P010991P120999", 1, 1).pot(1, 7), 3));
        test("a SALT POT that is told behind the RAW one", () -> is(fire("K2P120999P010999", 1, 1).pot(0, 7), 3));
    }

    private static void bleedsWhere() {
        promise(12);
        says("a SALT POT (a done one, too) is in the KILN below");
        test("in the same KILN", () -> is(fire("K2P110999P120999", 1, 1).pot(1, 7), 0));
        test("in the KILN above", () -> is(fire("K3P210999P120999", 1, 1, 1).pot(1, 7), 0));
        test("two below", () -> is(fire("K3P010999P220999", 1, 1, 1).pot(1, 7), 0));
        test("RAW in KILN 0, where none is below: SALT beside it", () -> is(fire("K2P010999P020999", 1, 1).pot(1, 7), 0));
        test("RAW in KILN 0, SALT in the last one", () -> is(fire("K2P110999P020999", 1, 1, 1).pot(1, 7), 0));
        test("RAW in the last KILN of five", () -> {
            OvensAbove x = fire("K5P310999P420999", 4, 0, 0, 0);
            is(x.pot(1, 7), 0);
            is(x.quarter(0), 2);
            is(x.pot(1, 7), 3);
        });
        test("SALT that was put away", () -> {
            OvensAbove x = fire("K2P010999P120999", 1);
            x.put(0, 1);
            is(x.quarter(0), 0);
        });
        test("SALT that was put there", () -> {
            OvensAbove x = fire("K2P110999P120999", 1, 0);
            x.put(0, 0);
            is(x.quarter(0), 2);
        });
        test("one SALT of two is enough", () -> is(fire("K3P210999P010999P120999", 1, 1).pot(2, 7), 3));
    }

    private static void wants() {
        promise(12);
        says("if the HEAT is as it wants, it has one QUARTER more");
        says("it wants HEAT of 10 l .. 10 h");
        test("HEAT 0, l 0", () -> is(fire("K2P000099", 0).pot(0, 6), 1));
        test("10 l, the least", () -> is(thickAtTen("P031999").pot(0, 6), 1));
        test("one less than 10 l", () -> {
            OvensAbove x = thickAtTen("P031999");
            damped(x, 1, 0);
            heats(x, 9);
            is(x.pot(0, 6), 1);
        });
        test("10 h, the most", () -> is(thickAtTen("P030199").pot(0, 6), 1));
        test("one more than 10 h", () -> {
            OvensAbove x = thickAtTen("P030299");
            damped(x, 1, 0);
            heats(x, 9);
            is(x.pot(0, 6), 2);
            damped(x, 9, 1);
            heats(x, 21);
            is(x.pot(0, 6), 2);
        });
        test("90, the greatest h", () -> {
            OvensAbove x = putInto("P109999", 5);
            damped(x, 1, 0);
            heats(x, 90);
            is(x.pot(0, 6), 1);
        });
        test("10 l and 10 h alike", () -> is(thickAtTen("P031199").pot(0, 6), 1));
        test("the HEAT behind the QUARTER, not ahead of it", () -> is(fire("K2P000099", 1).pot(0, 6), 0));
    }

    /** 100 (more than it wants), then 10. */
    private static OvensAbove thickAtTen(String pot) {
        OvensAbove x = fire("K2S009" + pot, 5, 0);
        heats(x, 10);
        return x;
    }

    private static void ready() {
        promise(12);
        says("if it has t of them, it is READY.");
        test("t 1, the least", () -> is(fire("K2P000019", 0).pot(0, 7), 1));
        test("t 2: one is not enough", () -> is(fire("K2P000029", 0).pot(0, 7), 0));
        test("t 2", () -> is(fire("K2P000029", 0, 0).pot(0, 7), 1));
        test("t 9: eight are not enough", () -> is(fire("K2P000099", 0, 0, 0, 0, 0, 0, 0, 0).pot(0, 7), 0));
        test("t 9, the most", () -> is(fire("K2P000099", 0, 0, 0, 0, 0, 0, 0, 0, 0).pot(0, 7), 1));
        test("they need not be one behind another", () -> {
            OvensAbove x = of("K2S000P000029");
            is(x.quarter(0), 0);
            is(x.quarter(1), 0);
            x.damp(0, 10);
            is(x.quarter(0), 1);
            is(x.pot(0, 7), 1);
        });
        test("in two KILNS", () -> {
            OvensAbove x = fire("K2P000029", 0);
            x.put(0, 1);
            is(x.quarter(0), 1);
        });
        says("(READY, CRACKED, BLED ones are done: they change no more.)");
        test("a READY one cracks not", () -> is(fire("K2P000911", 0, 9).pot(0, 7), 1));
        test("a READY one has no more", () -> is(fire("K2P000919", 0, 0).pot(0, 6), 1));
        test("a READY RAW one is not BLED", () -> is(fire("K2P010999P120919", 1, 1).pot(1, 7), 1));
        test("a CRACKED one has none", () -> {
            OvensAbove x = fire("K2S000P000911", 1, 0, 0);
            is(x.pot(0, 6), 0);
            is(x.pot(0, 7), 2);
        });
        test("a BLED one cracks not", () -> is(fire("K2P010999P120991", 1, 0, 9, 0).pot(1, 7), 3));
        test("a BLED one has no more", () -> {
            OvensAbove x = fire("K2P010999P120999", 1, 1);
            x.open(0, 0);
            is(fire(x, 0, 0).pot(1, 6), 1);
        });
    }

    private static void order() {
        promise(12);
        says("Then each POT that is not done: it is CRACKED");
        says("it is BLED on; else, if the HEAT is as it wants");
        test("CRACKED goes ahead of BLED", () -> is(fire("K2P010999P120991", 4, 0).pot(1, 7), 2));
        test("what is not CRACKED by one less is BLED", () -> is(fire("K2P010999P120991", 1, 0).pot(1, 7), 3));
        test("CRACKED goes ahead of READY", () -> is(fire("K2P000911", 1).pot(0, 7), 2));
        test("BLED goes ahead of READY", () -> {
            OvensAbove x = fire("K2P010999P120929", 1, 0);
            is(x.pot(1, 7), 3);
            is(x.pot(1, 6), 1);
        });
        test("what goes up is told by the QUARTER's SHUTTER", () -> {
            OvensAbove x = fire("K2S000P010999P120929", 1);
            x.open(0, 1);
            is(x.quarter(0), 2);
            is(x.pot(1, 7), 3);
        });
    }

    private static void doneBits() {
        promise(12);
        says("A QUARTER: which POTS are done by it, as bits.");
        test("no POTS", () -> is(in(NEW).quarter(9), 0));
        test("none of five", () -> is(of("K2" + "P000999".repeat(5)).quarter(1), 0));
        test("all five", () -> is(of("K2" + "P000919".repeat(5)).quarter(1), 31));
        test("POT 0 alone", () -> is(of("K2P000919P000999P000999P000999P000999").quarter(1), 1));
        test("POT 4 alone", () -> is(of("K2P000999P000999P000999P000999P000919").quarter(1), 16));
        test("READY and CRACKED ones", () -> is(of("K2P000919P000999P000991").quarter(1), 5));
        test("BLED ones", () -> is(fire("K2P010999P120999", 1).quarter(0), 2));
        test("those that were done are told no more", () -> is(fire("K2P000919P000929", 1).quarter(1), 2));
        test("none are left", () -> is(fire("K2P000919P000919", 1).quarter(1), 0));
    }

    // ---- the row, promise 13

    private static void row() {
        promise(12);
        says("QUARTERS that were fired are a row (12 at most; when it is full, the first one is forgotten)");
        test("empty", () -> is(shutFor(0).about(2), 0));
        test("one", () -> is(shutFor(1).about(2), 1));
        test("eleven", () -> is(shutFor(11).about(2), 11));
        test("twelve: full", () -> is(shutFor(12).about(2), 12));
        test("thirteen: the first one is forgotten", () -> is(shutFor(13).about(2), 12));
        test("one that is refused is none", () -> {
            OvensAbove x = shutFor(3);
            x.quarter(10);
            is(x.about(2), 3);
        });
        promise(13);
        says("the last one can be undone");
        says("The last QUARTER is undone: how many are left.");
        test("twelve of twelve", () -> undoAll(12, 0));
        test("twelve of thirteen", () -> undoAll(13, 1));
        test("twelve of fourteen", () -> undoAll(14, 2));
        test("twelve of twenty-five, twice round", () -> undoAll(25, 13));
        test("one of one", () -> undoAll(1, 0));
        test("undone ones make room: none is forgotten", () -> {
            OvensAbove x = shutFor(12);
            x.undo();
            x.quarter(1);
            undoAll(x, 12, 0);
        });
        test("one more than the room that was made", () -> {
            OvensAbove x = shutFor(14);
            x.undo();
            x.undo();
            fire(x, 1, 1, 1);
            undoAll(x, 12, 3);
        });
        test("fired anew when all were undone", () -> {
            OvensAbove x = shutFor(13);
            undoAll(x, 12, 1);
            fire(x, 1, 1);
            undoAll(x, 2, 1);
        });
    }

    /** 20 more of heat by each quarter. */
    private static OvensAbove shutFor(int quarters) {
        OvensAbove x = of("K2S000");
        for (int i = 0; i < quarters; i++) {
            x.quarter(1);
        }
        return x;
    }

    private static void undoAll(int quarters, int forgotten) {
        undoAll(shutFor(quarters), quarters - forgotten, forgotten);
    }

    private static void undoAll(OvensAbove x, int left, int forgotten) {
        for (int i = left - 1; i >= 0; i--) {
            is(x.undo(), i);
            is(x.kiln(0, 0), 20 * (forgotten + i));
            is(x.about(2), i);
        }
        is(x.undo(), LATE);
        is(x.kiln(0, 0), 20 * forgotten);
    }

    private static void undo() {
        promise(13);
        says("LATE: there is none");
        test("none was fired", () -> refusedIn(NEW, LATE, x -> x.undo()));
        test("all were undone", () -> refusedIn(x -> {
            fire(x, 1, 2);
            x.undo();
            x.undo();
        }, LATE, x -> x.undo()));
        test("twelve of a row that was more than full were undone", () -> refusedIn(x -> {
            MOST.accept(x);
            for (int i = 0; i < 12; i++) {
                x.undo();
            }
        }, LATE, x -> x.undo()));
        test("THE TOWER was made anew", () -> refusedIn(x -> {
            MOST.accept(x);
            retell(x, "K5");
        }, LATE, x -> x.undo()));
        test("what was kept was gone on from", () -> refusedIn(x -> {
            MOST.accept(x);
            x.again(1);
        }, LATE, x -> x.undo()));
        test("one that was refused", () -> refusedIn(x -> x.quarter(10), LATE, x -> x.undo()));
        says("(HEAT, POTS, what went out are as they were; where POTS are, SHUTTERS and DAMPERS stay)");
        test("it is as if it had not been fired", () -> {
            same(x -> fire(x, 3), x -> fire(x, 3, 4).undo());
            same(SOME, x -> {
                SOME.accept(x);
                fire(x, 9).undo();
            });
        });
        test("twelve of fourteen, with five KILNS and five POTS", () -> same(x -> {
            retell(x, LONGEST);
            fire(x, 4, 1);
        }, x -> {
            retell(x, LONGEST);
            fire(x, 4, 1, 9, 0, 9, 3, 9, 0, 9, 2, 9, 0, 9, 1);
            for (int i = 0; i < 12; i++) {
                x.undo();
            }
        }, Looks.ROW));
        test("HEAT of each KILN", () -> {
            OvensAbove x = fire("K5", 9, 1, 2, 3, 4);
            int[] was = new int[5];
            for (int i = 0; i < 5; i++) {
                was[i] = x.kiln(i, 0);
            }
            x.quarter(9);
            x.undo();
            heats(x, was);
        });
        test("what went out", () -> {
            OvensAbove x = fire("K2S019", 5, 5);
            is(x.about(4), 90);
            x.quarter(5);
            x.undo();
            is(x.about(4), 90);
            x.undo();
            is(x.about(4), 0);
        });
        test("a POT's QUARTERS", () -> {
            OvensAbove x = fire("K2P000999", 1, 1);
            x.undo();
            is(x.pot(0, 6), 1);
        });
        test("a READY one is not done", () -> undoneFrom("K2P000919", 0, 1, 1));
        test("a CRACKED one is not done", () -> undoneFrom("K2P000991", 0, 2, 1));
        test("a BLED one is not done", () -> undoneFrom("K2P010999P120999", 1, 3, 1, 1));
        test("one that was done ahead of it stays so", () -> {
            OvensAbove x = fire("K2P000919", 1, 1);
            x.undo();
            is(x.pot(0, 7), 1);
        });
    }

    private static void undoneFrom(String text, int pot, int how, int... woods) {
        OvensAbove x = fire(text, woods);
        is(x.pot(pot, 7), how);
        x.undo();
        is(x.pot(pot, 7), 0);
    }

    private static void undoStays() {
        promise(13);
        says("where POTS are, SHUTTERS and DAMPERS stay");
        test("a SHUTTER", () -> {
            OvensAbove x = fire("K2", 1);
            x.open(1, 10);
            x.undo();
            is(x.kiln(1, 1), 10);
        });
        test("a DAMPER", () -> {
            OvensAbove x = fire("K2", 1);
            x.damp(1, 5);
            x.undo();
            is(x.kiln(1, 2), 5);
        });
        test("where a POT was put behind the QUARTER", () -> {
            OvensAbove x = fire("K5P000999", 1);
            x.put(0, 4);
            x.undo();
            is(x.pot(0, 0), 4);
            is(x.pot(0, 6), 0);
        });
        test("where it was put, three QUARTERS back", () -> {
            OvensAbove x = fire("K2P000999", 0, 0, 0);
            x.put(0, 1);
            x.undo();
            x.undo();
            x.undo();
            is(x.pot(0, 0), 1);
        });
        test("CONES, THE TEXT and SLOTS", () -> changesOnly(SOME, x -> x.undo(), Looks.TOWER, Looks.AHEAD, Looks.ROW));
        test("all SHUTTERS, of a row that is full", () -> {
            OvensAbove x = in(MOST);
            x.open(2, 1);
            for (int i = 0; i < 12; i++) {
                x.undo();
            }
            is(x.kiln(2, 1), 1);
            is(x.kiln(0, 2), 3);
            is(x.kiln(4, 1), 2);
            is(x.pot(4, 0), 3);
        });
    }

    // ---- promise 14

    private static void warm() {
        promise(14);
        says("n QUARTERS (1 .. 9) from how all is now on are looked at, nothing is changed");
        test("nothing is changed", () -> changesNothing(x -> x.warm(1, 9, 9)));
        test("from how all is now on", () -> is(fire("K2S000", 9).warm(0, 1, 1), 200));
        says("WARM: HEAT of a KILN behind n QUARTERS with w WOOD each");
        says("WARM. UNKNOWN; BAD: n, w.");
        test("n 1, the least", () -> is(of("K2S000").warm(0, 1, 5), 100));
        test("n 9, the most", () -> is(of("K2S000").warm(0, 9, 5), 900));
        test("w 0, the least", () -> is(of("K2S000").warm(0, 9, 0), 0));
        test("w 9, the most", () -> is(of("K2S000").warm(0, 9, 9), 1620));
        test("the last KILN of two", () -> is(of("K2S090S100").warm(1, 2, 5), 90));
        test("the last KILN of five: one QUARTER too few", () -> is(allOpen().warm(4, 4, 9), 0));
        test("the last KILN of five", () -> is(allOpen().warm(4, 5, 9), 180));
        test("as it is behind QUARTERS that are fired", () -> {
            OvensAbove x = in(MOST);
            int due = x.warm(2, 3, 7);
            is(fire(x, 7, 7, 7).kiln(2, 0), due);
        });
        test("KILN -1", () -> refused(UNKNOWN, x -> x.warm(-1, 1, 1)));
        test("KILN 5", () -> refused(UNKNOWN, x -> x.warm(5, 1, 1)));
        test("KILN 2 of two", () -> refusedIn(NEW, UNKNOWN, x -> x.warm(2, 1, 1)));
        test("KILN 3 of three", () -> refusedIn(SOME, UNKNOWN, x -> x.warm(3, 1, 1)));
        test("KILN the least int", () -> refused(UNKNOWN, x -> x.warm(MIN, 1, 1)));
        test("KILN the greatest int", () -> refused(UNKNOWN, x -> x.warm(MAX, 1, 1)));
        test("n 0", () -> refused(BAD, x -> x.warm(0, 0, 1)));
        test("n 10", () -> refused(BAD, x -> x.warm(0, 10, 1)));
        test("n the least int", () -> refused(BAD, x -> x.warm(0, MIN, 1)));
        test("n the greatest int", () -> refused(BAD, x -> x.warm(0, MAX, 1)));
        test("w -1", () -> refused(BAD, x -> x.warm(1, 1, -1)));
        test("w 10", () -> refused(BAD, x -> x.warm(1, 1, 10)));
        test("w the least int", () -> refused(BAD, x -> x.warm(1, 1, MIN)));
        test("w the greatest int", () -> refused(BAD, x -> x.warm(1, 1, MAX)));
        test("UNKNOWN is told ahead of BAD n", () -> refused(UNKNOWN, x -> x.warm(5, 0, 1)));
        test("UNKNOWN is told ahead of BAD w", () -> refused(UNKNOWN, x -> x.warm(-1, 1, 10)));
    }

    private static OvensAbove allOpen() {
        OvensAbove x = of("K5");
        for (int i = 0; i < 5; i++) {
            x.open(i, 10);
        }
        return x;
    }

    // ---- promise 15

    private static void then() {
        promise(15);
        says("n QUARTERS (1 .. 9) from how all is now on are looked at, nothing is changed");
        test("nothing is changed", () -> {
            changesNothingIn(SOME, x -> x.then(1, 9, 9));
            changesNothingIn(MOST, x -> x.then(4, 9, 9));
        });
        says("UNKNOWN; BAD.");
        test("POT -1", () -> refused(UNKNOWN, x -> x.then(-1, 1, 1)));
        test("POT 5", () -> refused(UNKNOWN, x -> x.then(5, 1, 1)));
        test("POT 0 of none", () -> refusedIn(NEW, UNKNOWN, x -> x.then(0, 1, 1)));
        test("POT 3 of three", () -> refusedIn(SOME, UNKNOWN, x -> x.then(3, 1, 1)));
        test("POT the least int", () -> refused(UNKNOWN, x -> x.then(MIN, 1, 1)));
        test("POT the greatest int", () -> refused(UNKNOWN, x -> x.then(MAX, 1, 1)));
        test("n 0", () -> refusedWithPots(BAD, x -> x.then(0, 0, 1)));
        test("n 10", () -> refusedWithPots(BAD, x -> x.then(1, 10, 1)));
        test("n the least int", () -> refusedWithPots(BAD, x -> x.then(0, MIN, 1)));
        test("n the greatest int", () -> refusedWithPots(BAD, x -> x.then(0, MAX, 1)));
        test("w -1", () -> refusedWithPots(BAD, x -> x.then(2, 1, -1)));
        test("w 10", () -> refusedWithPots(BAD, x -> x.then(2, 1, 10)));
        test("w the least int", () -> refusedWithPots(BAD, x -> x.then(2, 1, MIN)));
        test("w the greatest int", () -> refusedWithPots(BAD, x -> x.then(2, 1, MAX)));
        test("UNKNOWN is told ahead of BAD n", () -> refused(UNKNOWN, x -> x.then(5, 0, 1)));
        test("UNKNOWN is told ahead of BAD w", () -> refused(UNKNOWN, x -> x.then(-1, 1, 10)));
    }

    private static void thenStates() {
        promise(15);
        says("How a POT is behind n QUARTERS with w WOOD each (0 .. 3, as pot() tells).");
        test("n 1, the least", () -> is(of("K2P000019").then(0, 1, 0), 1));
        test("n 8 are not enough for t 9", () -> is(of("K2P000099").then(0, 8, 0), 0));
        test("n 9, the most", () -> is(of("K2P000099").then(0, 9, 0), 1));
        test("w 0, the least", () -> is(of("K2P001999").then(0, 9, 0), 0));
        test("w 9, the most: 180 are not too many", () -> is(of("K2P030999").then(0, 1, 9), 0));
        test("0: not done", () -> is(of("K2P000999").then(0, 1, 1), 0));
        test("1: READY", () -> is(of("K2P000919").then(0, 1, 1), 1));
        test("2: CRACKED", () -> is(of("K2P000911").then(0, 1, 1), 2));
        test("3: BLED", () -> is(of("K2P010999P120999").then(1, 2, 1), 3));
        test("3: one QUARTER too few", () -> is(of("K2P010999P120999").then(1, 1, 1), 0));
        test("a done one stays READY", () -> is(fire("K2P000911", 0).then(0, 1, 9), 1));
        test("a done one stays CRACKED", () -> is(in(MOST).then(3, 9, 0), 2));
        test("a done one stays BLED", () -> is(in(MOST).then(2, 9, 9), 3));
        test("QUARTERS that it has count", () -> is(fire("K2P000099", 0, 0, 0, 0).then(0, 5, 0), 1));
        test("POT 4 of five", () -> is(of("K2P000999P000999P000999P000999P000919").then(4, 1, 1), 1));
    }
}
