/** Bounds of promises 6 to 11: what is told of the tower, its kilns and pots, and what is set there. */
final class TowerBounds extends Bounds {
    private TowerBounds() {
    }

    static void all() {
        about();
        aboutPots();
        kiln();
        kilnPots();
        pot();
        potStates();
        open();
        damp();
        put();
        putLate();
    }

    // ---- promise 6

    private static void about() {
        promise(6);
        says("KILNS (what = 0), POTS (1), QUARTERS in the row (2), HEAT of all KILNS (3), what went out (4)");
        test("what 0: two KILNS", () -> is(of("K2").about(0), 2));
        test("what 0: five KILNS", () -> is(of("K5").about(0), 5));
        test("what 1: no POTS", () -> is(of("K5").about(1), 0));
        test("what 1: five POTS", () -> is(of(LONGEST).about(1), 5));
        test("what 2: a row that is empty", () -> is(of("K5").about(2), 0));
        test("what 2: a row of one", () -> is(fired("K5", 1).about(2), 1));
        test("what 2: a row that is full", () -> is(fired("K5", 12).about(2), 12));
        test("what 2: more than full", () -> is(fired("K5", 13).about(2), 12));
        test("what 3: all cold", () -> is(of("K5").about(3), 0));
        test("what 3: the HEAT of each KILN, the last one too", () -> {
            OvensAbove x = fired("K2S000", 3);
            x.open(0, 5);
            x.quarter(0);
            is(x.about(3), 60);
        });
        test("what 4: nothing", () -> is(of("K5").about(4), 0));
        test("what 4: of a DAMPER and of the last SHUTTER", () -> {
            OvensAbove x = fired("K2S033", 1);
            x.quarter(0);
            is(x.about(4), 6);
            x.quarter(0);
            is(x.about(4), 6 + 2 + 3);
        });
        says("CONES (8), bytes of THE TEXT (9)");
        test("what 8: no CONES", () -> is(in(NEW).about(8), 0));
        test("what 8: eight CONES", () -> is(in(MOST).about(8), 8));
        test("what 9: an empty TEXT", () -> is(in(NEW).about(9), 0));
        test("what 9: a full TEXT", () -> is(in(MOST).about(9), 64));
        says("bytes of THE TEXT (9). BAD.");
        test("what -1", () -> refused(BAD, x -> x.about(-1)));
        test("what 10", () -> refused(BAD, x -> x.about(10)));
        test("what the least int", () -> refused(BAD, x -> x.about(MIN)));
        test("what the greatest int", () -> refused(BAD, x -> x.about(MAX)));
        test("what is told changes nothing", () -> {
            for (int what = 0; what <= 9; what++) {
                int asked = what;
                changesNothing(x -> x.about(asked));
            }
        });
    }

    private static OvensAbove fired(String text, int quarters) {
        OvensAbove x = of(text);
        for (int i = 0; i < quarters; i++) {
            x.quarter(1);
        }
        return x;
    }

    private static void aboutPots() {
        promise(6);
        says("READY (5), CRACKED (6), BLED POTS (7)");
        test("what 5: none READY of five", () -> is(of(LONGEST).about(5), 0));
        test("what 5: all five are READY", () -> is(fired("K2" + "P100011".repeat(5), 1).about(5), 5));
        test("what 6: none CRACKED of five", () -> is(of(LONGEST).about(6), 0));
        test("what 6: all five are CRACKED", () -> is(fired("K2" + "P000091".repeat(5), 1).about(6), 5));
        test("what 7: none BLED of five", () -> is(of(LONGEST).about(7), 0));
        test("what 7: four BLED ones, as one must be SALT", () -> {
            OvensAbove x = fired("K2P010999" + "P120999".repeat(4), 2);
            is(x.about(7), 4);
            is(x.about(5) + x.about(6), 0);
        });
        test("each POT is counted once", () -> {
            OvensAbove x = in(MOST);
            is(x.about(5), 2);
            is(x.about(6), 1);
            is(x.about(7), 1);
        });
        test("no POTS: none of them", () -> {
            OvensAbove x = fired("K5", 1);
            is(x.about(5), 0);
            is(x.about(6), 0);
            is(x.about(7), 0);
        });
    }

    // ---- promise 7

    private static void kiln() {
        promise(7);
        says("KILNS are 0 (lowest) .. n - 1 (n 2 .. 5)");
        test("KILN 0", () -> is(fired("K2", 1).kiln(0, 0), 20));
        test("KILN 1, the last of two", () -> is(of("K2S163").kiln(1, 1), 6));
        test("KILN 4, the last of five", () -> is(of("K5S463").kiln(4, 2), 3));
        says("UNKNOWN; BAD.");
        test("KILN -1", () -> refused(UNKNOWN, x -> x.kiln(-1, 0)));
        test("KILN 5", () -> refused(UNKNOWN, x -> x.kiln(5, 0)));
        test("KILN 2 of two", () -> refusedIn(NEW, UNKNOWN, x -> x.kiln(2, 0)));
        test("KILN 3 of three", () -> refusedIn(SOME, UNKNOWN, x -> x.kiln(3, 0)));
        test("KILN 4 of four", () -> is(of("K4").kiln(4, 0), UNKNOWN));
        test("KILN the least int", () -> refused(UNKNOWN, x -> x.kiln(MIN, 0)));
        test("KILN the greatest int", () -> refused(UNKNOWN, x -> x.kiln(MAX, 0)));
        test("what -1", () -> refused(BAD, x -> x.kiln(0, -1)));
        test("what 4", () -> refused(BAD, x -> x.kiln(1, 4)));
        test("what the least int", () -> refused(BAD, x -> x.kiln(0, MIN)));
        test("what the greatest int", () -> refused(BAD, x -> x.kiln(0, MAX)));
        test("UNKNOWN is told ahead of BAD", () -> refused(UNKNOWN, x -> x.kiln(5, 4)));
        test("UNKNOWN below is told ahead of BAD", () -> refused(UNKNOWN, x -> x.kiln(-1, -1)));
        says("Of a KILN HEAT (what = 0), SHUTTER (1), DAMPER (2), which POTS are in it, as bits (3).");
        test("what 0: cold", () -> is(of("K2").kiln(0, 0), 0));
        test("what 0: hot", () -> is(fired("K2S000", 3).kiln(0, 0), 60));
        test("what 1: shut", () -> is(of("K2S109").kiln(1, 1), 0));
        test("what 1: all ten tenths", () -> {
            OvensAbove x = of("K2");
            x.open(1, 10);
            is(x.kiln(1, 1), 10);
        });
        test("what 2: shut", () -> is(of("K2S190").kiln(1, 2), 0));
        test("what 2: all ten tenths", () -> {
            OvensAbove x = of("K2S100");
            x.damp(1, 10);
            is(x.kiln(1, 2), 10);
        });
        test("what is told changes nothing", () -> {
            for (int what = 0; what <= 3; what++) {
                int asked = what;
                changesNothing(x -> x.kiln(1, asked));
            }
        });
    }

    private static void kilnPots() {
        promise(7);
        says("which POTS are in it, as bits (3)");
        test("no POTS at all", () -> is(of("K2").kiln(0, 3), 0));
        test("none in this one", () -> is(of("K2P000011").kiln(1, 3), 0));
        test("POT 0 alone", () -> is(of("K2P000011P100011").kiln(0, 3), 1));
        test("POT 4 alone", () -> is(of("K2" + "P100011".repeat(4) + "P000011").kiln(0, 3), 16));
        test("all five", () -> is(of("K2" + "P100011".repeat(5)).kiln(1, 3), 31));
        test("done ones too", () -> is(fired("K2P000091P000929P000919", 1).kiln(0, 3), 7));
        test("where it was put", () -> {
            OvensAbove x = of("K2P000011P000011");
            x.put(1, 1);
            is(x.kiln(0, 3), 1);
            is(x.kiln(1, 3), 2);
        });
    }

    // ---- promise 8

    private static void pot() {
        promise(8);
        says("POTS 0, 1, .. (5 at most)");
        test("POT 0 of one", () -> is(of("K2P100011").pot(0, 0), 1));
        test("POT 4, the last of five", () -> is(of(LONGEST).pot(4, 0), 4));
        says("UNKNOWN; BAD.");
        test("POT -1", () -> refused(UNKNOWN, x -> x.pot(-1, 0)));
        test("POT 5", () -> refused(UNKNOWN, x -> x.pot(5, 0)));
        test("POT 0 of none", () -> refusedIn(NEW, UNKNOWN, x -> x.pot(0, 0)));
        test("POT 3 of three", () -> refusedIn(SOME, UNKNOWN, x -> x.pot(3, 0)));
        test("POT the least int", () -> refused(UNKNOWN, x -> x.pot(MIN, 0)));
        test("POT the greatest int", () -> refused(UNKNOWN, x -> x.pot(MAX, 0)));
        test("what -1", () -> refusedWithPots(BAD, x -> x.pot(0, -1)));
        test("what 8", () -> refusedWithPots(BAD, x -> x.pot(2, 8)));
        test("what the least int", () -> refusedWithPots(BAD, x -> x.pot(0, MIN)));
        test("what the greatest int", () -> refusedWithPots(BAD, x -> x.pot(0, MAX)));
        test("UNKNOWN is told ahead of BAD", () -> refused(UNKNOWN, x -> x.pot(5, 8)));
        test("UNKNOWN of none is told ahead of BAD", () -> refusedIn(NEW, UNKNOWN, x -> x.pot(0, -1)));
        says("Of a POT its KILN (what = 0), KIND (1), l (2), h (3), t (4), b (5)");
        test("all at their least", () -> tells("K2P000011", 0, 0, 0, 0, 1, 1, 0, 0));
        test("all at their greatest", () -> tells("K5P439999", 4, 3, 9, 9, 9, 9, 0, 0));
        test("each in its own place", () -> tells("K5P213576", 2, 1, 3, 5, 7, 6, 0, 0));
        test("a THICK one's b is as it is told", () -> is(of("K2P030011").pot(0, 5), 1));
        says("KINDS: 0 plain; 1 SALT; 2 RAW; 3 THICK");
        test("plain", () -> is(of("K2P000011").pot(0, 1), 0));
        test("SALT", () -> is(of("K2P010011").pot(0, 1), 1));
        test("RAW", () -> is(of("K2P020011").pot(0, 1), 2));
        test("THICK", () -> is(of("K2P030011").pot(0, 1), 3));
        says("how it is (7: 0 not done");
        test("what is told changes nothing", () -> {
            for (int what = 0; what <= 7; what++) {
                int asked = what;
                changesNothingIn(SOME, x -> x.pot(1, asked));
                changesNothingIn(MOST, x -> x.pot(4, asked));
            }
        });
    }

    private static void tells(String text, int... due) {
        OvensAbove x = of(text);
        for (int what = 0; what < due.length; what++) {
            is(x.pot(0, what), due[what]);
        }
    }

    private static void potStates() {
        promise(8);
        says("how many QUARTERS it has (6)");
        test("none", () -> is(of("K2P000099").pot(0, 6), 0));
        test("one", () -> is(coldFor(1).pot(0, 6), 1));
        test("one less than t", () -> is(coldFor(8).pot(0, 6), 8));
        test("nine, the most", () -> is(coldFor(9).pot(0, 6), 9));
        test("no more than t", () -> is(coldFor(10).pot(0, 6), 9));
        says("how it is (7: 0 not done, 1 READY, 2 CRACKED, 3 BLED)");
        test("not done", () -> is(coldFor(8).pot(0, 7), 0));
        test("READY", () -> is(coldFor(9).pot(0, 7), 1));
        test("CRACKED", () -> is(fired("K2P000091", 1).pot(0, 7), 2));
        test("BLED", () -> is(fired("K2P010999P120999", 2).pot(1, 7), 3));
    }

    private static OvensAbove coldFor(int quarters) {
        OvensAbove x = of("K2P000099");
        for (int i = 0; i < quarters; i++) {
            x.quarter(0);
        }
        return x;
    }

    // ---- promise 9

    private static void open() {
        promise(9);
        says("A SHUTTER is open s tenths: what it was.");
        test("what it was at first", () -> is(in(NEW).open(1, 0), 5));
        test("what it was behind it", () -> {
            OvensAbove x = in(NEW);
            x.open(1, 7);
            is(x.open(1, 2), 7);
            is(x.kiln(1, 1), 2);
        });
        test("to what it is", () -> changesNothing(x -> x.open(1, x.kiln(1, 1))));
        test("the last KILN of five", () -> is(of("K5S491").open(4, 0), 9));
        test("others stay", () -> {
            OvensAbove x = of("K3");
            x.open(1, 0);
            is(x.kiln(0, 1), 5);
            is(x.kiln(2, 1), 5);
        });
        says("BAD: s (0 .. ten less its DAMPER)");
        test("s 0", () -> opens("K2S055", 0, 5));
        test("s -1", () -> refused(BAD, x -> x.open(0, -1)));
        test("s 10 with the DAMPER shut", () -> opens("K2S050", 10, 5));
        test("s 11 with the DAMPER shut", () -> opens("K2S050", 11, BAD));
        test("s 5 of ten less 5", () -> opens("K2S005", 5, 0));
        test("s 6 of ten less 5", () -> opens("K2S005", 6, BAD));
        test("s 1 of ten less 9", () -> opens("K2S009", 1, 0));
        test("s 2 of ten less 9", () -> opens("K2S009", 2, BAD));
        test("s 0 with all ten tenths of the DAMPER", () -> is(damped().open(0, 0), 0));
        test("s 1 with all ten tenths of the DAMPER", () -> is(damped().open(0, 1), BAD));
        test("another KILN's DAMPER takes nothing", () -> is(damped().open(1, 10), 5));
        test("s too large by a DAMPER", () -> refusedIn(MOST, BAD, x -> x.open(4, 3)));
        test("s 11", () -> refused(BAD, x -> x.open(1, 11)));
        test("s the least int", () -> refused(BAD, x -> x.open(0, MIN)));
        test("s the greatest int", () -> refused(BAD, x -> x.open(0, MAX)));
        says("UNKNOWN; BAD: s");
        test("KILN -1", () -> refused(UNKNOWN, x -> x.open(-1, 5)));
        test("KILN 5", () -> refused(UNKNOWN, x -> x.open(5, 5)));
        test("KILN 2 of two", () -> refusedIn(NEW, UNKNOWN, x -> x.open(2, 5)));
        test("KILN 3 of three", () -> refusedIn(SOME, UNKNOWN, x -> x.open(3, 5)));
        test("KILN the least int", () -> refused(UNKNOWN, x -> x.open(MIN, 5)));
        test("KILN the greatest int", () -> refused(UNKNOWN, x -> x.open(MAX, 5)));
        test("UNKNOWN is told ahead of BAD", () -> refused(UNKNOWN, x -> x.open(5, 11)));
        test("UNKNOWN below is told ahead of BAD", () -> refused(UNKNOWN, x -> x.open(-1, -1)));
    }

    private static void opens(String text, int s, int due) {
        OvensAbove x = of(text);
        int was = x.kiln(0, 1);
        is(x.open(0, s), due);
        is(x.kiln(0, 1), due == BAD ? was : s);
    }

    private static OvensAbove damped() {
        OvensAbove x = of("K2S000");
        x.damp(0, 10);
        return x;
    }

    // ---- promise 10

    private static void damp() {
        promise(10);
        says("A DAMPER is open d tenths: what it was.");
        test("what it was at first", () -> is(in(NEW).damp(1, 5), 0));
        test("what it was behind it", () -> {
            OvensAbove x = in(NEW);
            x.damp(1, 4);
            is(x.damp(1, 2), 4);
            is(x.kiln(1, 2), 2);
        });
        test("to what it is", () -> changesNothing(x -> x.damp(1, x.kiln(1, 2))));
        test("the last KILN of five", () -> is(of("K5S419").damp(4, 0), 9));
        test("others stay", () -> {
            OvensAbove x = of("K3");
            x.damp(1, 5);
            is(x.kiln(0, 2), 0);
            is(x.kiln(2, 2), 0);
        });
        says("BAD: d (0 .. ten less its SHUTTER)");
        test("d 0", () -> damps("K2S055", 0, 5));
        test("d -1", () -> refused(BAD, x -> x.damp(0, -1)));
        test("d 10 with the SHUTTER shut", () -> damps("K2S005", 10, 5));
        test("d 11 with the SHUTTER shut", () -> damps("K2S005", 11, BAD));
        test("d 5 of ten less 5", () -> damps("K2S050", 5, 0));
        test("d 6 of ten less 5", () -> damps("K2S050", 6, BAD));
        test("d 1 of ten less 9", () -> damps("K2S090", 1, 0));
        test("d 2 of ten less 9", () -> damps("K2S090", 2, BAD));
        test("d 0 with all ten tenths of the SHUTTER", () -> is(opened().damp(0, 0), 0));
        test("d 1 with all ten tenths of the SHUTTER", () -> is(opened().damp(0, 1), BAD));
        test("another KILN's SHUTTER takes nothing", () -> is(opened().damp(1, 5), 0));
        test("d too large by a SHUTTER", () -> refusedIn(MOST, BAD, x -> x.damp(0, 6)));
        test("d 11", () -> refused(BAD, x -> x.damp(1, 11)));
        test("d the least int", () -> refused(BAD, x -> x.damp(0, MIN)));
        test("d the greatest int", () -> refused(BAD, x -> x.damp(0, MAX)));
        says("UNKNOWN; BAD: d");
        test("KILN -1", () -> refused(UNKNOWN, x -> x.damp(-1, 0)));
        test("KILN 5", () -> refused(UNKNOWN, x -> x.damp(5, 0)));
        test("KILN 2 of two", () -> refusedIn(NEW, UNKNOWN, x -> x.damp(2, 0)));
        test("KILN 3 of three", () -> refusedIn(SOME, UNKNOWN, x -> x.damp(3, 0)));
        test("KILN the least int", () -> refused(UNKNOWN, x -> x.damp(MIN, 0)));
        test("KILN the greatest int", () -> refused(UNKNOWN, x -> x.damp(MAX, 0)));
        test("UNKNOWN is told ahead of BAD", () -> refused(UNKNOWN, x -> x.damp(5, 11)));
        test("UNKNOWN below is told ahead of BAD", () -> refused(UNKNOWN, x -> x.damp(-1, -1)));
    }

    private static void damps(String text, int d, int due) {
        OvensAbove x = of(text);
        int was = x.kiln(0, 2);
        is(x.damp(0, d), due);
        is(x.kiln(0, 2), due == BAD ? was : d);
    }

    private static OvensAbove opened() {
        OvensAbove x = in(NEW);
        x.open(0, 10);
        return x;
    }

    // ---- promise 11

    private static void put() {
        promise(11);
        says("A POT is put into a KILN: where it was.");
        test("from the lowest KILN of two to the last", () -> puts("K2P000011", 0, 1, 0));
        test("from the last KILN of two to the lowest", () -> puts("K2P100011", 0, 0, 1));
        test("from the lowest KILN of five to the last", () -> puts("K5P000011", 0, 4, 0));
        test("from the last KILN of five to the lowest", () -> puts("K5P400011", 0, 0, 4));
        test("POT 4 of five", () -> puts("K5" + "P000011".repeat(5), 4, 3, 0));
        test("to where it is", () -> changesNothingIn(SOME, x -> x.put(1, x.pot(1, 0))));
        test("others stay", () -> {
            OvensAbove x = of("K3P000011P000011P000011");
            x.put(1, 2);
            is(x.kiln(0, 3), 5);
            is(x.kiln(2, 3), 2);
        });
        test("five in one KILN", () -> {
            OvensAbove x = of("K2" + "P000011".repeat(5));
            for (int i = 0; i < 5; i++) {
                x.put(i, 1);
            }
            is(x.kiln(1, 3), 31);
        });
        test("its QUARTERS stay", () -> {
            OvensAbove x = fired("K2P000999", 3);
            x.put(0, 1);
            is(x.pot(0, 6), 3);
        });
        says("UNKNOWN: pot, kiln");
        test("POT -1", () -> refused(UNKNOWN, x -> x.put(-1, 0)));
        test("POT 5", () -> refused(UNKNOWN, x -> x.put(5, 0)));
        test("POT 0 of none", () -> refusedIn(NEW, UNKNOWN, x -> x.put(0, 0)));
        test("POT 3 of three", () -> refusedIn(SOME, UNKNOWN, x -> x.put(3, 0)));
        test("POT the least int", () -> refused(UNKNOWN, x -> x.put(MIN, 0)));
        test("POT the greatest int", () -> refused(UNKNOWN, x -> x.put(MAX, 0)));
        test("KILN -1", () -> refusedWithPots(UNKNOWN, x -> x.put(1, -1)));
        test("KILN 3 of three", () -> refusedIn(SOME, UNKNOWN, x -> x.put(1, 3)));
        test("KILN 5", () -> refusedIn(MOST, UNKNOWN, x -> x.put(4, 5)));
        test("KILN the least int", () -> refusedWithPots(UNKNOWN, x -> x.put(2, MIN)));
        test("KILN the greatest int", () -> refusedWithPots(UNKNOWN, x -> x.put(2, MAX)));
        test("neither is known", () -> refused(UNKNOWN, x -> x.put(5, 5)));
    }

    private static void puts(String text, int pot, int kiln, int due) {
        OvensAbove x = of(text);
        is(x.put(pot, kiln), due);
        is(x.pot(pot, 0), kiln);
    }

    private static void putLate() {
        promise(11);
        says("LATE: it is done");
        test("a READY one", () -> refusedIn(MOST, LATE, x -> x.put(0, 3)));
        test("a CRACKED one", () -> refusedIn(MOST, LATE, x -> x.put(3, 3)));
        test("a BLED one", () -> refusedIn(MOST, LATE, x -> x.put(2, 3)));
        test("a done one to where it is", () -> refusedIn(MOST, LATE, x -> x.put(0, 0)));
        test("one that lacks one QUARTER is not done", () -> is(fired("K2P000929", 1).put(0, 1), 0));
        test("one that is not done any more", () -> {
            OvensAbove x = fired("K2P000919", 1);
            is(x.put(0, 1), LATE);
            x.undo();
            is(x.put(0, 1), 0);
        });
        test("UNKNOWN is told ahead of LATE", () -> refusedIn(MOST, UNKNOWN, x -> x.put(0, 5)));
        test("UNKNOWN below is told ahead of LATE", () -> refusedIn(MOST, UNKNOWN, x -> x.put(0, -1)));
    }
}
