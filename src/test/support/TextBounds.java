/** Bounds of promises 1 to 5: a new object, the text, its fault, and the tower that it becomes. */
final class TextBounds extends Bounds {
    private TextBounds() {
    }

    static void all() {
        newObject();
        newObjectHasNothing();
        write();
        writeFull();
        wipe();
        faultAtEnds();
        faultOfHead();
        faultOfShutters();
        faultOfPots();
        faultOfParts();
        faultIsTheFirst();
        tower();
        towerForgets();
        towerLate();
    }

    // ---- promise 1

    private static void newObject() {
        promise(1);
        says("Two KILNS, cold.");
        test("there are two KILNS", () -> is(in(NEW).about(0), 2));
        test("the first one is there", () -> is(in(NEW).kiln(0, 0), 0));
        test("the second one is there", () -> is(in(NEW).kiln(1, 0), 0));
        test("there is no third", () -> is(in(NEW).kiln(2, 0), UNKNOWN));
        test("there is none below the first", () -> is(in(NEW).kiln(-1, 0), UNKNOWN));
        test("all are cold", () -> is(in(NEW).about(3), 0));
        says("at first SHUTTERS are open 5, DAMPERS 0");
        test("the first SHUTTER", () -> is(in(NEW).kiln(0, 1), 5));
        test("the last SHUTTER", () -> is(in(NEW).kiln(1, 1), 5));
        test("the first DAMPER", () -> is(in(NEW).kiln(0, 2), 0));
        test("the last DAMPER", () -> is(in(NEW).kiln(1, 2), 0));
        says("At first there are two KILNS, no POTS.");
        test("no POTS are counted", () -> is(in(NEW).about(1), 0));
        test("there is no POT 0", () -> is(in(NEW).pot(0, 0), UNKNOWN));
        test("no POTS are in the first KILN", () -> is(in(NEW).kiln(0, 3), 0));
        test("no POTS are in the last KILN", () -> is(in(NEW).kiln(1, 3), 0));
        says("HEAT is 0 in all KILNS at first");
        test("no wood, no HEAT", () -> {
            OvensAbove x = in(NEW);
            is(x.quarter(0), 0);
            is(x.about(3), 0);
        });
    }

    private static void newObjectHasNothing() {
        promise(1);
        says("THE TEXT is bytes (64 at most)");
        test("THE TEXT is empty", () -> is(in(NEW).about(9), 0));
        test("an empty TEXT is no TOWER", () -> is(in(NEW).tower(), LATE));
        says("QUARTERS that were fired are a row");
        test("the row is empty", () -> is(in(NEW).about(2), 0));
        test("there is nothing to undo", () -> is(in(NEW).undo(), LATE));
        test("nothing went out", () -> is(in(NEW).about(4), 0));
        test("no POT is READY", () -> is(in(NEW).about(5), 0));
        test("no POT is CRACKED", () -> is(in(NEW).about(6), 0));
        test("no POT is BLED", () -> is(in(NEW).about(7), 0));
        says("8 at most, none at first");
        test("there are no CONES", () -> is(in(NEW).about(8), 0));
        test("there is none to take away", () -> is(in(NEW).uncone(), 0));
        says("SLOTS 0 .. 1 keep");
        test("slot 0 was never kept", () -> is(in(NEW).again(0), LATE));
        test("slot 1 was never kept", () -> is(in(NEW).again(1), LATE));
        says("Two KILNS, cold.");
        test("what is done with one object is not done with another", () -> same(NEW, x -> in(MOST)));
        test("two objects stand side by side", () -> {
            OvensAbove one = in(NEW);
            OvensAbove other = in(NEW);
            one.quarter(9);
            is(one.kiln(0, 0), 180);
            is(other.kiln(0, 0), 0);
        });
    }

    // ---- promise 2

    private static void write() {
        promise(2);
        says("n bytes (1 .. 8) of v");
        test("n 1, the least", () -> is(in(NEW).write(1, 'K'), 1));
        test("n 8, the greatest", () -> is(in(NEW).write(8, 'K'), 8));
        test("n 0, too small", () -> refused(BAD, x -> x.write(0, 'K')));
        test("n 9, too large", () -> refused(BAD, x -> x.write(9, 'K')));
        test("n -1", () -> refused(BAD, x -> x.write(-1, 'K')));
        test("n the least int", () -> refused(BAD, x -> x.write(MIN, 'K')));
        test("n the greatest int", () -> refused(BAD, x -> x.write(MAX, 'K')));
        says("the lowest n, the highest of these first");
        test("each n takes its lowest bytes in their order", TextBounds::eachNumberOfBytes);
        test("all bits of v are set", () -> is(written(8, -1L).fault(), 0));
        test("the highest bit alone is set", () -> is(written(8, Long.MIN_VALUE).fault(), 0));
        test("the highest byte is the first of eight", () -> is(written(8, (long) 'K' << 56).fault(), 1));
        test("a byte above the lowest one is not taken", () -> is(written(1, 'K' << 8 | '2').fault(), 0));
        test("a byte's highest bit counts", () -> is(written(1, 'K' | 128).fault(), 0));
        test("a byte 0 is a byte", () -> is(written(1, 0).about(9), 1));
        says("come behind THE TEXT: how long it is");
        test("behind an empty TEXT", () -> is(in(NEW).write(2, 'K' << 8 | '2'), 2));
        test("behind a TEXT that is told", () -> is(telling("K2S0").write(2, '5' << 8 | '5'), 6));
        test("they come at its end", () -> is(with(telling("K2S0"), 2, '5' << 8 | '5').fault(), NONE));
        test("nothing but THE TEXT is changed", () -> changesOnly(SOME, x -> x.write(3, 'S'), Looks.TEXT));
    }

    private static OvensAbove written(int n, long v) {
        return with(in(NEW), n, v);
    }

    private static OvensAbove with(OvensAbove x, int n, long v) {
        x.write(n, v);
        return x;
    }

    /** The first n bytes of a tower, and above them what must not come. */
    private static void eachNumberOfBytes() {
        String text = "K2S055S1";
        for (int n = 1; n <= 8; n++) {
            long v = -1;
            for (int i = 0; i < n; i++) {
                v = v << 8 | text.charAt(i);
            }
            OvensAbove x = in(NEW);
            is(x.write(n, v), n);
            is(x.fault(), n == 2 || n == 6 ? NONE : n);
        }
    }

    private static void writeFull() {
        promise(2);
        says("FULL: it would be longer than 64 (nothing comes)");
        test("to 64, one by one", () -> {
            OvensAbove x = in(NEW);
            for (int i = 1; i <= 64; i++) {
                is(x.write(1, 'K'), i);
            }
            is(x.write(1, 'K'), FULL);
        });
        test("to 64, eight by eight", () -> {
            OvensAbove x = in(NEW);
            for (int i = 1; i <= 8; i++) {
                is(x.write(8, 'K'), 8 * i);
            }
            is(x.write(8, 'K'), FULL);
        });
        test("each n at each length", TextBounds::eachNumberAtEachLength);
        test("one byte too many behind 64", () -> refusedIn(MOST, FULL, x -> x.write(1, 'K')));
        test("eight bytes too many behind 64", () -> refusedIn(MOST, FULL, x -> x.write(8, 'K')));
        test("64 by seven behind 57", () -> is(telling(LONGEST).write(7, 'K'), 64));
        test("65 by eight behind 57: not one of them comes", () -> {
            OvensAbove x = telling(LONGEST);
            is(x.write(8, 'K'), FULL);
            is(x.about(9), 57);
            is(x.fault(), NONE);
            is(x.tower(), 5);
        });
        test("what is FULL for two is not for one", () -> {
            OvensAbove x = telling(LONGEST + "012345");
            is(x.write(2, 'K'), FULL);
            is(x.write(1, 'K'), 64);
        });
        says("BAD; FULL");
        test("BAD 0 is told ahead of FULL", () -> refusedIn(MOST, BAD, x -> x.write(0, 'S')));
        test("BAD 9 is told ahead of FULL", () -> refusedIn(MOST, BAD, x -> x.write(9, 'S')));
        test("BAD is told ahead of what would be FULL", () -> is(telling(LONGEST).write(9, 'S'), BAD));
    }

    private static void eachNumberAtEachLength() {
        for (int length = 55; length <= 64; length++) {
            for (int n = 1; n <= 8; n++) {
                OvensAbove x = telling((LONGEST + "1234567").substring(0, length));
                int fault = x.fault();
                boolean fits = length + n <= 64;
                is(x.write(n, 'x'), fits ? length + n : FULL);
                is(x.about(9), fits ? length + n : length);
                is(x.fault(), fits || fault != NONE ? Math.min(length, 57) : NONE);
            }
        }
    }

    // ---- promise 3

    private static void wipe() {
        promise(3);
        says("THE TEXT is empty: how long it was");
        test("an empty TEXT", () -> is(in(NEW).wipe(), 0));
        test("an empty TEXT: nothing is changed", () -> changesNothingIn(NEW, x -> x.wipe()));
        test("a TEXT of one byte", () -> is(telling("K").wipe(), 1));
        test("a full TEXT", () -> is(in(MOST).wipe(), 64));
        test("it is empty", () -> {
            OvensAbove x = in(MOST);
            x.wipe();
            is(x.about(9), 0);
            is(x.fault(), 0);
            is(x.tower(), LATE);
        });
        test("twice", () -> {
            OvensAbove x = in(SOME);
            is(x.wipe(), 28);
            is(x.wipe(), 0);
        });
        test("there is room for 64 again", () -> {
            OvensAbove x = in(MOST);
            x.wipe();
            append(x, LONGEST);
            is(x.write(7, 'x'), 64);
            is(x.fault(), 57);
        });
        test("nothing of what was told is left behind", () -> {
            OvensAbove x = telling("K2S055");
            x.wipe();
            append(x, "K2");
            is(x.fault(), NONE);
        });
        test("nothing but THE TEXT is changed", () -> changesOnly(MOST, x -> x.wipe(), Looks.TEXT));
    }

    // ---- promise 4

    /** Of all bytes that could come next just these fit; with one of them THE TEXT is whole or not. */
    private static void next(String text, String fit, boolean isWhole) {
        for (int b = 0; b < 256; b++) {
            OvensAbove x = telling(text);
            x.write(1, b);
            int length = text.length() + 1;
            is(x.fault(), fit.indexOf(b) < 0 ? length - 1 : isWhole ? NONE : length);
        }
    }

    private static void faultAtEnds() {
        promise(4);
        says("its length, if it is only not at its end");
        test("an empty TEXT", () -> is(in(NEW).fault(), 0));
        test("each beginning of the longest TOWER", TextBounds::eachBeginning);
        says("NONE: none");
        test("two KILNS and no PARTS", () -> is(telling("K2").fault(), NONE));
        test("five KILNS, all SHUTTERS, five POTS", () -> is(telling(LONGEST).fault(), NONE));
        says("FAULT; NONE");
        test("nothing is changed", () -> changesNothing(x -> x.fault()));
        test("twice the same", () -> {
            OvensAbove x = telling("K2S055S0");
            is(x.fault(), 7);
            is(x.fault(), 7);
        });
    }

    private static void eachBeginning() {
        String ends = " 2 6 10 14 18 22 29 36 43 50 57 ";
        for (int length = 0; length <= LONGEST.length(); length++) {
            OvensAbove x = telling(LONGEST.substring(0, length));
            is(x.fault(), ends.contains(" " + length + " ") ? NONE : length);
        }
    }

    private static void faultOfHead() {
        promise(4);
        says("A TOWER is a TEXT: K, n, then PARTS, none or more:");
        test("K is the first byte", () -> next("", "K", false));
        says("(n 2 .. 5)");
        test("n is 2 .. 5", () -> next("K", "2345", true));
        says("K, n, then PARTS, none or more");
        test("a PART begins with S or P", () -> next("K2", "SP", false));
        test("a PART behind a SHUTTER begins with S or P", () -> next("K2S055", "SP", false));
        test("a PART behind a POT begins with S or P", () -> next("K2P000011", "SP", false));
    }

    private static void faultOfShutters() {
        promise(4);
        says("the SHUTTER of KILN i");
        test("i of two KILNS", () -> next("K2S", "01", false));
        test("i of three KILNS", () -> next("K3S", "012", false));
        test("i of four KILNS", () -> next("K4S", "0123", false));
        test("i of five KILNS", () -> next("K5S", "01234", false));
        says("is open s tenths (0 .. 9)");
        test("s is 0 .. 9", () -> next("K2S0", "0123456789", false));
        says("its DAMPER d tenths (0 .. 9), together no more than ten");
        test("d is 0 .. 9 behind s 0", () -> next("K2S00", "0123456789", true));
        test("d is 0 .. 9 behind s 1", () -> next("K2S01", "0123456789", true));
        test("d is 0 .. 8 behind s 2", () -> next("K2S02", "012345678", true));
        test("d is 0 .. 5 behind s 5", () -> next("K2S05", "012345", true));
        test("d is 0 .. 2 behind s 8", () -> next("K2S08", "012", true));
        test("d is 0 .. 1 behind s 9", () -> next("K2S09", "01", true));
        says("no i twice");
        test("the first one not twice", () -> next("K2S055S", "1", false));
        test("the last one not twice", () -> next("K5S455S", "0123", false));
        test("not twice with a POT between", () -> next("K3S155P000011S", "02", false));
        test("the last one that is left", () -> next("K3S155S255S", "0", false));
        test("no SHUTTER is left of two: no S fits", () -> next("K2S155S055", "P", false));
        test("no SHUTTER is left of five: no S fits", () -> next("K5S055S155S255S355S455", "P", false));
    }

    private static void faultOfPots() {
        promise(4);
        says("a POT of KIND k (0 .. 3) in KILN g");
        test("g of two KILNS", () -> next("K2P", "01", false));
        test("g of five KILNS", () -> next("K5P", "01234", false));
        test("k is 0 .. 3", () -> next("K2P0", "0123", false));
        says("it wants HEAT of 10 l .. 10 h (l, h 0 .. 9, h no less than l)");
        test("l is 0 .. 9", () -> next("K2P00", "0123456789", false));
        test("h is 0 .. 9 behind l 0", () -> next("K2P000", "0123456789", false));
        test("h is 1 .. 9 behind l 1", () -> next("K2P001", "123456789", false));
        test("h is 5 .. 9 behind l 5", () -> next("K2P005", "56789", false));
        test("h is 9 behind l 9", () -> next("K2P009", "9", false));
        says("for t QUARTERS (1 .. 9)");
        test("t is 1 .. 9", () -> next("K2P0000", "123456789", false));
        says("it BEARS 10 b (1 .. 9)");
        test("b is 1 .. 9", () -> next("K2P00001", "123456789", true));
        test("b of a THICK POT is 1 .. 9", () -> next("K2P03001", "123456789", true));
    }

    private static void faultOfParts() {
        promise(4);
        says("POTS 0, 1, .. (5 at most)");
        String four = "P000011P000011P000011P000011";
        test("a fifth POT fits", () -> next("K2" + four, "SP", false));
        test("a sixth POT does not", () -> next("K2" + four + "P000011", "S", false));
        test("nor behind a SHUTTER", () -> next("K2" + four + "P000011S055", "S", false));
        says("PARTS, none or more");
        test("nothing fits behind all SHUTTERS and five POTS", () -> next(LONGEST, "", false));
        test("SHUTTERS may come behind POTS", () -> is(telling("K2P000011S155P000011S055").fault(), NONE));
        test("two POTS may be alike", () -> is(telling("K2P000011P000011").fault(), NONE));
    }

    private static void faultIsTheFirst() {
        promise(4);
        says("FAULT: the place (from 0) of the first byte by which THE TEXT can be no TOWER, whatever came behind it");
        test("what fits behind a fault mends it not", () -> is(telling("K6S055").fault(), 1));
        test("a second fault is not told", () -> is(telling("K2S095xx").fault(), 5));
        test("a fault ahead of an end that is missing", () -> is(telling("K2S3").fault(), 3));
        test("the last byte of a TEXT", () -> is(telling("K2P000010").fault(), 8));
        says("(its length set aside)");
        test("a full TEXT of nothing but faults", () -> is(telling("x".repeat(64)).fault(), 0));
        test("a full TEXT whose fault is behind the longest TOWER", () -> is(telling(LONGEST + "S000P00").fault(), 57));
        test("a full TEXT with a fault in its middle", () -> {
            String text = LONGEST.substring(0, 22) + "P009999P009899";
            is(telling(text + "P009999".repeat(4)).fault(), 33);
        });
    }

    // ---- promise 5

    private static void tower() {
        promise(5);
        says("THE TEXT is THE TOWER");
        says("how many KILNS");
        test("two KILNS, the fewest", () -> is(telling("K2").tower(), 2));
        test("three KILNS", () -> is(telling("K3").tower(), 3));
        test("four KILNS", () -> is(telling("K4").tower(), 4));
        test("five KILNS, the most", () -> is(telling("K5").tower(), 5));
        test("the longest TOWER", () -> is(telling(LONGEST).tower(), 5));
        test("no PARTS: no POTS", () -> is(of("K5").about(1), 0));
        test("five POTS", () -> is(of(LONGEST).about(1), 5));
        test("the last KILN is there", () -> is(of("K5").kiln(4, 1), 5));
        test("the next one is not", () -> is(of("K4").kiln(4, 1), UNKNOWN));
        says("(at first SHUTTERS are open 5, DAMPERS 0)");
        test("a SHUTTER that is not told", () -> is(of("K2S190").kiln(0, 1), 5));
        test("a DAMPER that is not told", () -> is(of("K2S109").kiln(0, 2), 0));
        test("a told SHUTTER, the least", () -> is(of("K2S109").kiln(1, 1), 0));
        test("a told SHUTTER, the greatest", () -> is(of("K2S191").kiln(1, 1), 9));
        test("a told DAMPER, the least", () -> is(of("K2S190").kiln(1, 2), 0));
        test("a told DAMPER, the greatest", () -> is(of("K2S119").kiln(1, 2), 9));
        says("(THE TEXT itself stays;");
        test("it is as long as it was", () -> {
            OvensAbove x = of(LONGEST);
            is(x.about(9), 57);
            is(x.fault(), NONE);
        });
        test("what is written comes behind it", () -> {
            OvensAbove x = of("K2");
            is(x.write(1, 'S'), 3);
            is(x.fault(), 3);
        });
        test("it is the same TOWER again", () -> {
            OvensAbove x = of(LONGEST);
            x.open(1, 0);
            x.put(2, 0);
            is(x.tower(), 5);
            is(x.kiln(1, 1), 4);
            is(x.pot(2, 0), 2);
        });
    }

    private static void towerForgets() {
        promise(5);
        says("cold, no QUARTERS were fired, nothing went out; what was kept is gone; CONES stay)");
        test("it is as if it were told to a new object, but for its CONES", TextBounds::likeNew);
        test("all KILNS are cold", () -> is(remade("K5").about(3), 0));
        test("there is nothing to undo", () -> is(remade("K5").undo(), LATE));
        test("the row is empty", () -> is(remade("K5").about(2), 0));
        test("nothing went out", () -> is(remade("K5").about(4), 0));
        test("slot 0 is gone", () -> is(remade("K5").again(0), LATE));
        test("slot 1 is gone", () -> is(remade("K5").again(1), LATE));
        test("eight CONES stay", () -> is(remade("K5").about(8), 8));
        test("a ninth is FULL still", () -> is(remade("K2").cone(0, 1, 1, 1, true), FULL));
        test("no POTS any more", () -> is(remade("K5").pot(0, 0), UNKNOWN));
        test("a POT is not done any more", () -> is(remade("K5P000019").pot(0, 7), 0));
        test("a POT has no QUARTERS any more", () -> is(remade("K5P000029").pot(0, 6), 0));
        test("a SHUTTER that is not told is at 5 again", () -> is(remade("K5").kiln(3, 1), 5));
        test("a DAMPER that is not told is at 0 again", () -> is(remade("K5").kiln(3, 2), 0));
        says("HEAT is 0 in all KILNS at first, and when THE TOWER is made anew");
        test("a KILN that comes back is cold", () -> {
            OvensAbove x = remade("K2");
            retell(x, "K5");
            is(x.about(3), 0);
            is(x.quarter(0), 0);
            is(x.about(3), 0);
        });
    }

    private static OvensAbove remade(String text) {
        OvensAbove x = in(MOST);
        retell(x, text);
        return x;
    }

    private static void likeNew() {
        for (String text : new String[] {"K2", "K3P010999P120999", LONGEST}) {
            same(x -> retell(x, text), x -> {
                MOST.accept(x);
                x.uncone();
                retell(x, text);
            });
        }
    }

    private static void towerLate() {
        promise(5);
        says("LATE: a FAULT");
        test("an empty TEXT", () -> refusedIn(NEW, LATE, x -> x.tower()));
        test("a TEXT that is only not at its end", () -> refusedIn(SOME, LATE, x -> x.tower()));
        test("a full TEXT with a fault", () -> refusedIn(MOST, LATE, x -> x.tower()));
        test("K alone", () -> is(telling("K").tower(), LATE));
        test("one KILN", () -> is(telling("K1").tower(), LATE));
        test("six KILNS", () -> is(telling("K6").tower(), LATE));
        test("six POTS", () -> is(telling("K2" + "P000011".repeat(6)).tower(), LATE));
        test("a SHUTTER twice", () -> is(telling("K2S055S055").tower(), LATE));
        test("a fault in the last byte", () -> is(telling("K2S092").tower(), LATE));
        test("a fault in a POT behind a SHUTTER: the SHUTTER stays, too", () -> refusedIn(x -> {
            retell(x, "K2S019P000019");
            x.quarter(5);
            x.wipe();
            append(x, "K3S091P000100");
        }, LATE, x -> x.tower()));
    }
}
