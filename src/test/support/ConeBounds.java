/** Bounds of promises 22 to 25: cones, whose shutter it was, what each kiln owes. */
final class ConeBounds extends Bounds {
    private ConeBounds() {
    }

    static void all() {
        cone();
        coneRefused();
        uncone();
        blameBits();
        blameCones();
        blameKilns();
        blameRefused();
        owed();
        owedRefused();
    }

    private static OvensAbove fire(String text, int... woods) {
        OvensAbove x = of(text);
        for (int w : woods) {
            x.quarter(w);
        }
        return x;
    }

    private static OvensAbove coned(String text, int cones) {
        OvensAbove x = of(text);
        for (int i = 0; i < cones; i++) {
            x.cone(0, 1, 0, 0, true);
        }
        return x;
    }

    // ---- promise 22

    private static void cone() {
        promise(22);
        says("8 at most, none at first");
        says("CONES: how many there are.");
        test("the first one", () -> is(in(NEW).cone(0, 1, 1, 1, true), 1));
        test("the seventh", () -> is(coned("K2", 6).cone(0, 1, 1, 1, true), 7));
        test("the eighth, the last", () -> is(coned("K2", 7).cone(0, 1, 1, 1, true), 8));
        test("the same twice are two", () -> is(coned("K2", 1).cone(0, 1, 0, 0, true), 2));
        test("nothing but CONES is changed", () -> changesOnly(SOME, x -> x.cone(0, 1, 1, 1, true), Looks.CONES));
        says("CONES stay");
        test("THE TOWER made anew: they are counted on", () -> {
            OvensAbove x = coned("K2", 3);
            retell(x, "K5");
            is(x.cone(4, 1, 1, 1, true), 4);
        });
        test("a SLOT gone on from: they are counted on", () -> {
            OvensAbove x = coned("K2", 3);
            x.keep(0);
            x.uncone();
            x.again(0);
            is(x.cone(0, 1, 1, 1, true), 1);
        });
        test("a QUARTER undone: they are counted on", () -> {
            OvensAbove x = fire("K2", 1);
            x.cone(0, 1, 1, 1, true);
            x.undo();
            is(x.cone(0, 1, 1, 1, true), 2);
        });
        says("UNKNOWN: kiln; BAD: n, w, c; FULL: 8.");
        test("KILN 0", () -> is(of("K5").cone(0, 1, 1, 1, true), 1));
        test("KILN 4, the last of five", () -> is(of("K5").cone(4, 1, 1, 1, false), 1));
        test("n 1, the least", () -> is(in(NEW).cone(0, 1, 5, 5, true), 1));
        test("n 9, the most", () -> is(in(NEW).cone(0, 9, 5, 5, true), 1));
        test("w 0, the least", () -> is(in(NEW).cone(0, 5, 0, 5, true), 1));
        test("w 9, the most", () -> is(in(NEW).cone(0, 5, 9, 5, true), 1));
        test("c 0, the least", () -> is(in(NEW).cone(0, 5, 5, 0, false), 1));
        test("c 99, the most", () -> is(in(NEW).cone(0, 5, 5, 99, false), 1));
    }

    private static void coneRefused() {
        promise(22);
        says("UNKNOWN: kiln; BAD: n, w, c; FULL: 8.");
        test("KILN -1", () -> refused(UNKNOWN, x -> x.cone(-1, 1, 1, 1, true)));
        test("KILN 5", () -> refused(UNKNOWN, x -> x.cone(5, 1, 1, 1, false)));
        test("KILN 2 of two", () -> refusedIn(NEW, UNKNOWN, x -> x.cone(2, 1, 1, 1, true)));
        test("KILN 3 of three", () -> refusedIn(SOME, UNKNOWN, x -> x.cone(3, 1, 1, 1, true)));
        test("KILN the least int", () -> refused(UNKNOWN, x -> x.cone(MIN, 1, 1, 1, true)));
        test("KILN the greatest int", () -> refused(UNKNOWN, x -> x.cone(MAX, 1, 1, 1, true)));
        test("n 0", () -> refused(BAD, x -> x.cone(0, 0, 1, 1, true)));
        test("n 10", () -> refused(BAD, x -> x.cone(1, 10, 1, 1, false)));
        test("n the least int", () -> refused(BAD, x -> x.cone(1, MIN, 1, 1, true)));
        test("n the greatest int", () -> refused(BAD, x -> x.cone(1, MAX, 1, 1, false)));
        test("w -1", () -> refused(BAD, x -> x.cone(0, 1, -1, 1, true)));
        test("w 10", () -> refused(BAD, x -> x.cone(1, 1, 10, 1, false)));
        test("w the least int", () -> refused(BAD, x -> x.cone(1, 1, MIN, 1, true)));
        test("w the greatest int", () -> refused(BAD, x -> x.cone(1, 1, MAX, 1, false)));
        test("c -1", () -> refused(BAD, x -> x.cone(0, 1, 1, -1, true)));
        test("c 100", () -> refused(BAD, x -> x.cone(1, 1, 1, 100, false)));
        test("c the least int", () -> refused(BAD, x -> x.cone(1, 1, 1, MIN, true)));
        test("c the greatest int", () -> refused(BAD, x -> x.cone(1, 1, 1, MAX, false)));
        test("a ninth", () -> refusedIn(MOST, FULL, x -> x.cone(0, 1, 1, 1, true)));
        test("a ninth that would be less", () -> refusedIn(MOST, FULL, x -> x.cone(4, 9, 9, 99, false)));
        test("a ninth behind THE TOWER made anew", () -> refusedIn(x -> {
            MOST.accept(x);
            retell(x, "K2");
        }, FULL, x -> x.cone(0, 1, 1, 1, true)));
        test("UNKNOWN is told ahead of BAD n", () -> refused(UNKNOWN, x -> x.cone(5, 0, 1, 1, true)));
        test("UNKNOWN is told ahead of BAD w", () -> refused(UNKNOWN, x -> x.cone(-1, 1, 10, 1, true)));
        test("UNKNOWN is told ahead of BAD c", () -> refused(UNKNOWN, x -> x.cone(5, 1, 1, 100, true)));
        test("UNKNOWN is told ahead of FULL", () -> refusedIn(MOST, UNKNOWN, x -> x.cone(5, 1, 1, 1, true)));
        test("UNKNOWN is told ahead of BAD and FULL", () -> refusedIn(MOST, UNKNOWN, x -> x.cone(5, 0, 10, 100, true)));
        test("BAD n is told ahead of FULL", () -> refusedIn(MOST, BAD, x -> x.cone(0, 10, 1, 1, true)));
        test("BAD w is told ahead of FULL", () -> refusedIn(MOST, BAD, x -> x.cone(0, 1, -1, 1, true)));
        test("BAD c is told ahead of FULL", () -> refusedIn(MOST, BAD, x -> x.cone(0, 1, 1, 100, true)));
    }

    // ---- promise 23

    private static void uncone() {
        promise(23);
        says("There are no CONES: how many there were.");
        test("none", () -> is(in(NEW).uncone(), 0));
        test("none: nothing is changed", () -> changesNothingIn(NEW, x -> x.uncone()));
        test("one", () -> is(coned("K2", 1).uncone(), 1));
        test("eight", () -> is(in(MOST).uncone(), 8));
        test("twice", () -> {
            OvensAbove x = in(MOST);
            x.uncone();
            is(x.uncone(), 0);
            is(x.about(8), 0);
        });
        test("there is room for eight again", () -> {
            OvensAbove x = in(MOST);
            x.uncone();
            for (int i = 1; i <= 8; i++) {
                is(x.cone(0, 1, 1, 1, true), i);
            }
            is(x.cone(0, 1, 1, 1, true), FULL);
        });
        test("what was told is true no more, nor false", () -> {
            OvensAbove x = of("K2");
            x.cone(0, 1, 0, 1, true);
            is(x.blame(0), 0);
            x.uncone();
            is(x.blame(0), 2047);
            x.cone(0, 1, 0, 0, true);
            is(x.blame(0), 2047);
        });
        test("eight of which none is left", () -> {
            OvensAbove x = in(NEW);
            for (int i = 0; i < 8; i++) {
                x.cone(0, 1, 0, 1, true);
            }
            x.uncone();
            x.cone(0, 1, 0, 0, true);
            is(x.blame(1), 2047);
        });
        test("nothing but CONES is changed", () -> {
            changesOnly(SOME, x -> x.uncone(), Looks.CONES, Looks.AHEAD);
            changesOnly(MOST, x -> x.uncone(), Looks.CONES, Looks.AHEAD);
        });
    }

    // ---- promise 24

    private static OvensAbove blaming(String text, int kiln, int n, int w, int c, boolean more) {
        OvensAbove x = of(text);
        x.cone(kiln, n, w, c, more);
        return x;
    }

    private static void blameBits() {
        promise(24);
        says("by how many tenths (0 .. ten less its DAMPER) a KILN's SHUTTER may be open, others as they are");
        says("so that all CONES are true: as bits");
        says("BLAME. UNKNOWN.");
        test("no CONES, the DAMPER shut: 0 .. ten", () -> is(of("K2").blame(0), 2047));
        test("no CONES, ten less 1", () -> is(of("K2S001").blame(0), 1023));
        test("no CONES, ten less 9", () -> is(of("K2S009").blame(0), 3));
        test("no CONES, ten less all ten: 0 alone", () -> {
            OvensAbove x = of("K2S000");
            x.damp(0, 10);
            is(x.blame(0), 1);
        });
        test("another KILN's DAMPER takes none", () -> is(of("K2S009").blame(1), 2047));
        test("the last KILN of five", () -> is(of("K5S405").blame(4), 63));
        test("none is true: no bits", () -> is(blaming("K2", 0, 1, 0, 1, true).blame(0), 0));
        test("0 tenths alone", () -> is(blaming("K2S100", 1, 2, 5, 1, false).blame(0), 1));
        test("ten tenths alone", () -> is(blaming("K2S100", 1, 2, 5, 10, true).blame(0), 1024));
        test("ten tenths alone, but for its DAMPER", () -> is(blaming("K2S001S100", 1, 2, 5, 10, true).blame(0), 0));
        test("how it is open now counts not", () -> is(blaming("K2S000S100", 1, 2, 5, 10, true).blame(0), 1024));
        test("others as they are", () -> {
            OvensAbove x = blaming("K2S030", 1, 2, 5, 3, true);
            is(x.blame(1), 2047);
            x.open(0, 2);
            is(x.blame(1), 0);
        });
        test("nothing is changed", () -> changesNothing(x -> x.blame(1)));
    }

    private static void blameCones() {
        promise(24);
        says("behind n QUARTERS (1 .. 9) with w WOOD each, all KILNS cold (0) ahead of these");
        says("CONES tell that a KILN had HEAT of 10 c (c 0 .. 99) or more, or less");
        test("just 10 c is 10 c or more", () -> is(blaming("K2", 0, 1, 5, 10, true).blame(0), 2047));
        test("just 10 c is not less", () -> is(blaming("K2", 0, 1, 5, 10, false).blame(0), 0));
        test("20 more than 10 c is more", () -> is(blaming("K2", 0, 1, 6, 10, true).blame(0), 2047));
        test("20 less than 10 c is less", () -> is(blaming("K2", 0, 1, 4, 10, false).blame(0), 2047));
        test("20 less than 10 c is not more", () -> is(blaming("K2", 0, 1, 4, 10, true).blame(0), 0));
        // With 1 wood each kiln 0 comes to 20, 30, 35, 38, 39, 40.
        test("one less than 10 c is less", () -> is(blaming("K2", 0, 5, 1, 4, false).blame(1), 2047));
        test("one less than 10 c is not more", () -> is(blaming("K2", 0, 5, 1, 4, true).blame(1), 0));
        test("one QUARTER more and it is 10 c", () -> is(blaming("K2", 0, 6, 1, 4, true).blame(1), 2047));
        test("c 0: cold is 0 or more", () -> is(blaming("K2", 1, 9, 0, 0, true).blame(0), 2047));
        test("c 0: none is less than 0", () -> is(blaming("K2", 1, 9, 0, 0, false).blame(0), 0));
        test("c 99: 900 is less", () -> is(blaming("K2S000", 0, 5, 9, 99, false).blame(1), 2047));
        test("c 99: 1080 is more", () -> is(blaming("K2S000", 0, 6, 9, 99, true).blame(1), 2047));
        test("n 1, the least", () -> is(blaming("K2S000", 0, 1, 9, 18, true).blame(1), 2047));
        test("n 9, the most", () -> is(blaming("K2S000", 0, 9, 5, 90, true).blame(1), 2047));
        test("n 9 and no more", () -> is(blaming("K2S000", 0, 9, 5, 91, false).blame(1), 2047));
        test("w 0, the least", () -> is(blaming("K2S000", 0, 9, 0, 1, false).blame(1), 2047));
        test("w 9, the most", () -> is(blaming("K2S000", 0, 1, 9, 19, false).blame(1), 2047));
        says("all KILNS cold (0) ahead of these");
        test("HEAT that is now counts not", () -> {
            OvensAbove x = fire("K2S000", 9, 9);
            x.cone(0, 1, 5, 10, true);
            is(x.blame(1), 2047);
            x.cone(0, 1, 5, 11, false);
            is(x.blame(1), 2047);
        });
        test("each CONE begins cold", () -> {
            OvensAbove x = of("K2S000");
            x.cone(0, 9, 9, 99, true);
            x.cone(0, 1, 1, 3, false);
            is(x.blame(1), 2047);
        });
        says("8 at most, none at first");
        test("seven true ones and one, told first, that is not", () -> eightBut(0));
        test("seven true ones and one, told last, that is not", () -> eightBut(7));
        test("eight true ones", () -> is(coned("K2", 8).blame(0), 2047));
        test("two that leave one between them", () -> {
            OvensAbove x = blaming("K2S100", 1, 2, 5, 3, true);
            x.cone(1, 2, 5, 4, false);
            is(x.blame(0), 8);
        });
        test("two that leave none between them", () -> {
            OvensAbove x = blaming("K2S100", 1, 2, 5, 3, true);
            x.cone(1, 2, 5, 3, false);
            is(x.blame(0), 0);
        });
    }

    private static void eightBut(int untrue) {
        OvensAbove x = of("K2");
        for (int i = 0; i < 8; i++) {
            x.cone(0, 1, 1, 2, i != untrue);
        }
        is(x.blame(0), 0);
    }

    private static void blameKilns() {
        promise(24);
        says("(What is told of a KILN that there is not any more is not true.)");
        test("10 c or more, where c is 0", () -> is(gone(true, "K4").blame(0), 0));
        test("less", () -> is(gone(false, "K4").blame(0), 0));
        test("the KILN below the last is there", () -> {
            OvensAbove x = of("K5");
            x.cone(3, 1, 1, 0, true);
            retell(x, "K4");
            is(x.blame(0), 2047);
        });
        test("it is there again", () -> {
            OvensAbove x = gone(true, "K2");
            is(x.blame(1), 0);
            retell(x, "K5");
            is(x.blame(1), 2047);
        });
        test("it is there again behind none that was changed", () -> {
            OvensAbove x = gone(false, "K3");
            retell(x, "K5");
            is(x.blame(4), 2047);
        });
        test("uncone() takes it away", () -> {
            OvensAbove x = gone(true, "K2");
            is(x.uncone(), 1);
            is(x.blame(0), 2047);
        });
    }

    /** What a cone told of the last of five kilns: 0 or more, or less than 10. */
    private static OvensAbove gone(boolean more, String text) {
        OvensAbove x = of("K5");
        x.cone(4, 1, 1, more ? 0 : 1, more);
        is(x.blame(0), 2047);
        retell(x, text);
        return x;
    }

    private static void blameRefused() {
        promise(24);
        says("BLAME. UNKNOWN.");
        test("KILN -1", () -> refused(UNKNOWN, x -> x.blame(-1)));
        test("KILN 5", () -> refused(UNKNOWN, x -> x.blame(5)));
        test("KILN 2 of two", () -> refusedIn(NEW, UNKNOWN, x -> x.blame(2)));
        test("KILN 3 of three", () -> refusedIn(SOME, UNKNOWN, x -> x.blame(3)));
        test("KILN the least int", () -> refused(UNKNOWN, x -> x.blame(MIN)));
        test("KILN the greatest int", () -> refused(UNKNOWN, x -> x.blame(MAX)));
    }

    // ---- promise 25

    private static void owes(OvensAbove x, int kiln, int upper, int lower) {
        is(x.owed(kiln, true), upper);
        is(x.owed(kiln, false), lower);
    }

    private static void owed() {
        promise(25);
        says("OWED by a KILN: its HEAT by the HEAT of all, a FRACTION (0 by 1, if all are cold)");
        says("OWED. UNKNOWN.");
        test("all are cold: the first of two", () -> owes(in(NEW), 0, 0, 1));
        test("all are cold: the last of five", () -> owes(of("K5"), 4, 0, 1));
        test("all are cold again", () -> {
            OvensAbove x = fire("K2S000", 5);
            x.damp(0, 10);
            x.quarter(0);
            owes(x, 0, 0, 1);
        });
        test("it alone is hot: 1 by 1", () -> owes(fire("K2", 9), 0, 1, 1));
        test("another alone is hot: 0 by 1", () -> owes(fire("K2", 9), 1, 0, 1));
        test("of KILNS that were, none is left", () -> {
            OvensAbove x = fire("K5S090S190S290S390", 9, 9, 9, 9, 9);
            retell(x, "K2");
            x.quarter(1);
            owes(x, 0, 1, 1);
        });
        says("FRACTIONS are told above (upper = true), below, in least terms.");
        test("1 by 2", () -> owes(fire("K2", 5, 0), 0, 1, 2));
        test("9 by 10", () -> owes(fire("K2S010", 5, 0), 0, 9, 10));
        test("1 by 10", () -> owes(fire("K2S010", 5, 0), 1, 1, 10));
        test("no common part: 38 and 27 of 65", () -> {
            OvensAbove x = fire("K2", 1, 1, 1, 1);
            owes(x, 0, 38, 65);
            owes(x, 1, 27, 65);
        });
        test("a common part of three: 39 and 33 of 72", () -> {
            OvensAbove x = fire("K2", 1, 1, 1, 1, 1);
            owes(x, 0, 13, 24);
            owes(x, 1, 11, 24);
        });
        test("the last of five", () -> owes(fire("K5S050S150S250S350S450", 8, 0, 0, 0, 0), 4, 1, 16));
        test("nothing is changed", () -> {
            changesNothing(x -> x.owed(0, true));
            changesNothing(x -> x.owed(1, false));
        });
    }

    private static void owedRefused() {
        promise(25);
        says("OWED. UNKNOWN.");
        test("KILN -1", () -> refused(UNKNOWN, x -> x.owed(-1, true)));
        test("KILN 5", () -> refused(UNKNOWN, x -> x.owed(5, false)));
        test("KILN 2 of two", () -> refusedIn(NEW, UNKNOWN, x -> x.owed(2, true)));
        test("KILN 3 of three", () -> refusedIn(SOME, UNKNOWN, x -> x.owed(3, false)));
        test("KILN the least int", () -> refused(UNKNOWN, x -> x.owed(MIN, true)));
        test("KILN the greatest int", () -> refused(UNKNOWN, x -> x.owed(MAX, false)));
    }
}
