/** Bounds of promises 26 and 27: what is kept and gone on from; and what is said of all refusals. */
final class SlotBounds extends Bounds {
    private SlotBounds() {
    }

    static void all() {
        keep();
        keepRefused();
        again();
        againIs();
        againRefused();
        refusals();
    }

    private static OvensAbove fire(OvensAbove x, int... woods) {
        for (int w : woods) {
            x.quarter(w);
        }
        return x;
    }

    private static OvensAbove fire(String text, int... woods) {
        return fire(of(text), woods);
    }

    // ---- promise 26

    private static void keep() {
        promise(26);
        says("They are kept: HEAT of all KILNS.");
        test("all are cold", () -> is(in(NEW).keep(0), 0));
        test("HEAT of all five", () -> is(fire("K5S050S150S250S350S450", 8, 0, 0, 0, 0).keep(1), 160));
        test("nothing but the SLOT is changed", () -> {
            changesOnly(NEW, x -> x.keep(0), Looks.SLOTS[0]);
            changesOnly(SOME, x -> x.keep(1), Looks.SLOTS[1]);
            changesOnly(MOST, x -> x.keep(0), Looks.SLOTS[0]);
        });
        test("the row stays, full", () -> {
            OvensAbove x = in(MOST);
            x.keep(0);
            is(x.about(2), 12);
            is(x.undo(), 11);
        });
        says("SLOTS 0 .. 1 keep HEAT, SHUTTERS, DAMPERS, POTS");
        test("slot 0, the first", () -> is(fire("K2", 3).keep(0), 60));
        test("slot 1, the last", () -> is(fire("K2", 3).keep(1), 60));
        test("each by itself", () -> {
            OvensAbove x = fire("K2S000", 1);
            x.keep(0);
            fire(x, 1);
            x.keep(1);
            fire(x, 1);
            is(x.again(0), 20);
            is(x.again(1), 40);
            is(x.again(0), 20);
        });
        test("kept again: the later is kept", () -> {
            OvensAbove x = fire("K2S000", 1);
            x.keep(0);
            fire(x, 1);
            x.keep(0);
            fire(x, 1);
            is(x.again(0), 40);
        });
        test("what comes behind it changes not what was kept", () -> {
            OvensAbove x = of("K2P000999");
            x.keep(0);
            fire(x, 9, 9);
            x.open(0, 0);
            x.damp(1, 5);
            x.put(0, 1);
            is(x.again(0), 0);
            is(x.kiln(0, 1), 5);
            is(x.kiln(1, 2), 0);
            is(x.pot(0, 0), 0);
            is(x.pot(0, 6), 0);
        });
    }

    private static void keepRefused() {
        promise(26);
        says("HEAT of all KILNS. UNKNOWN.");
        test("slot -1", () -> refused(UNKNOWN, x -> x.keep(-1)));
        test("slot 2", () -> refused(UNKNOWN, x -> x.keep(2)));
        test("slot the least int", () -> refused(UNKNOWN, x -> x.keep(MIN)));
        test("slot the greatest int", () -> refused(UNKNOWN, x -> x.keep(MAX)));
    }

    // ---- promise 27

    private static void again() {
        promise(27);
        says("They are as they were kept: HEAT of all KILNS.");
        test("HEAT 0, kept cold", () -> {
            OvensAbove x = in(NEW);
            x.keep(0);
            fire(x, 9);
            is(x.again(0), 0);
            is(x.about(3), 0);
        });
        test("HEAT of all five", () -> {
            OvensAbove x = fire("K5S050S150S250S350S450", 8, 0, 0, 0, 0);
            x.keep(1);
            fire(x, 9, 9);
            is(x.again(1), 160);
            is(x.kiln(4, 0), 10);
        });
        test("twice", () -> {
            OvensAbove x = fire("K2", 1);
            x.keep(0);
            fire(x, 2);
            is(x.again(0), 20);
            fire(x, 3);
            is(x.again(0), 20);
            is(x.again(0), 20);
        });
        test("at once: nothing but the row is changed", () -> changesOnly(x -> {
            SOME.accept(x);
            x.keep(0);
        }, x -> x.again(0), Looks.ROW));
        says("(no row of QUARTERS when one goes on)");
        test("a row that was empty", () -> rowBehind(0));
        test("a row of one", () -> rowBehind(1));
        test("a row that was full", () -> rowBehind(12));
        test("a row that was more than full", () -> rowBehind(13));
        test("a new row is told from there", () -> {
            OvensAbove x = fire("K2S000", 1);
            x.keep(0);
            fire(x, 2, 3);
            x.again(0);
            fire(x, 4);
            is(x.about(2), 1);
            is(x.undo(), 0);
            is(x.kiln(0, 0), 20);
            is(x.undo(), LATE);
        });
    }

    private static void rowBehind(int quarters) {
        OvensAbove x = of("K2");
        for (int i = 0; i < quarters; i++) {
            x.quarter(i % 3);
        }
        x.keep(0);
        x.again(0);
        is(x.about(2), 0);
        is(x.undo(), LATE);
    }

    /** Kept, then all of it changed, then gone on from. */
    private static OvensAbove changed() {
        OvensAbove x = fire("K3S045P000919P000991P110999P220999P010999", 2, 2, 2);
        x.keep(1);
        x.open(0, 1);
        x.damp(0, 0);
        x.put(4, 2);
        fire(x, 9, 9, 9);
        x.again(1);
        return x;
    }

    private static void againIs() {
        promise(27);
        says("keep HEAT, SHUTTERS, DAMPERS, POTS (where they are, how they are), what went out");
        test("all of five KILNS and five POTS", () -> same(x -> {
            MOST.accept(x);
            x.keep(1);
        }, x -> {
            MOST.accept(x);
            x.keep(1);
            for (int i = 0; i < 5; i++) {
                x.open(i, 0);
                x.damp(i, 2 * i + 1);
                x.put(i, 0);
            }
            fire(x, 9, 8, 7, 6);
            x.again(1);
        }, Looks.ROW));
        test("HEAT of each KILN", () -> {
            OvensAbove x = changed();
            is(x.kiln(0, 0), 45);
            is(x.kiln(1, 0), 25);
            is(x.kiln(2, 0), 8);
        });
        test("SHUTTERS", () -> is(changed().kiln(0, 1), 4));
        test("DAMPERS", () -> is(changed().kiln(0, 2), 5));
        test("where POTS are", () -> is(changed().pot(4, 0), 0));
        test("how many QUARTERS they have", () -> is(changed().pot(4, 6), 3));
        test("READY ones", () -> is(changed().pot(0, 7), 1));
        test("CRACKED ones", () -> is(changed().pot(1, 7), 2));
        test("BLED ones", () -> is(changed().pot(3, 7), 3));
        test("those that are not done", () -> is(changed().pot(2, 7), 0));
        test("what went out", () -> is(changed().about(4), 42));
        test("one that was not done may be put again", () -> {
            OvensAbove x = of("K2P000911");
            x.keep(0);
            fire(x, 9);
            is(x.put(0, 1), LATE);
            x.again(0);
            is(x.put(0, 1), 0);
        });
        test("CONES are not kept", () -> {
            OvensAbove x = in(NEW);
            x.keep(0);
            x.cone(0, 1, 1, 1, true);
            x.again(0);
            is(x.about(8), 1);
        });
        test("THE TEXT is not kept", () -> {
            OvensAbove x = of("K2");
            x.keep(0);
            x.write(1, 'S');
            x.again(0);
            is(x.about(9), 3);
        });
        test("the other SLOT stays", () -> {
            OvensAbove x = in(MOST);
            String other = Looks.of(MOST).get(Looks.SLOTS[1]);
            x.again(0);
            is(Looks.of(y -> {
                MOST.accept(y);
                y.again(0);
            }).get(Looks.SLOTS[1]).equals(other) ? 1 : 0, 1);
            is(x.again(1) >= 0 ? 1 : 0, 1);
        });
    }

    private static void againRefused() {
        promise(27);
        says("UNKNOWN; LATE: none were kept.");
        test("slot -1", () -> refused(UNKNOWN, x -> x.again(-1)));
        test("slot 2", () -> refused(UNKNOWN, x -> x.again(2)));
        test("slot the least int", () -> refused(UNKNOWN, x -> x.again(MIN)));
        test("slot the greatest int", () -> refused(UNKNOWN, x -> x.again(MAX)));
        test("slot 0, never kept", () -> refusedIn(NEW, LATE, x -> x.again(0)));
        test("slot 1, never kept", () -> refusedIn(NEW, LATE, x -> x.again(1)));
        test("slot 0, never kept beside one that was", () -> refusedIn(SOME, LATE, x -> x.again(0)));
        test("slot 1, never kept beside one that was", () -> refusedIn(x -> {
            fire(x, 3);
            x.keep(0);
        }, LATE, x -> x.again(1)));
        test("a keep that was refused", () -> refusedIn(x -> x.keep(2), LATE, x -> x.again(0)));
        says("what was kept is gone");
        test("slot 0, gone since", () -> refusedIn(SlotBounds::gone, LATE, x -> x.again(0)));
        test("slot 1, gone since", () -> refusedIn(SlotBounds::gone, LATE, x -> x.again(1)));
        test("gone with the same TOWER, too", () -> {
            OvensAbove x = fire("K2", 1);
            x.keep(0);
            x.tower();
            is(x.again(0), LATE);
        });
        test("not gone by a TOWER that is LATE", () -> {
            OvensAbove x = in(MOST);
            is(x.tower(), LATE);
            is(x.again(0) >= 0 ? 1 : 0, 1);
            is(x.again(1) >= 0 ? 1 : 0, 1);
        });
        test("kept anew since", () -> {
            OvensAbove x = in(MOST);
            retell(x, "K2");
            fire(x, 1);
            is(x.keep(1), 20);
            is(x.again(0), LATE);
            is(x.again(1), 20);
        });
        test("UNKNOWN is told ahead of LATE", () -> refusedIn(NEW, UNKNOWN, x -> x.again(2)));
    }

    private static void gone(OvensAbove x) {
        MOST.accept(x);
        retell(x, "K3P000999");
        fire(x, 1, 2);
    }

    // ---- what is said of all

    private static void refusals() {
        promise(27);
        says("REFUSALS: UNKNOWN -1 (there is no such KILN, POT, SLOT), BAD -2, LATE -3, FULL -4.");
        test("UNKNOWN", () -> is(OvensAbove.UNKNOWN, UNKNOWN));
        test("BAD", () -> is(OvensAbove.BAD, BAD));
        test("LATE", () -> is(OvensAbove.LATE, LATE));
        test("FULL", () -> is(OvensAbove.FULL, FULL));
        says("NONE is -9.");
        test("NONE", () -> is(OvensAbove.NONE, NONE));
        says("Of several what is told first. What is refused changes nothing.");
        test("a refusal of each call, one behind another", () -> same(MOST, x -> {
            MOST.accept(x);
            refuseAll(x);
        }));
        test("a refusal of each call of a new object", () -> same(NEW, SlotBounds::refuseAll));
    }

    private static void refuseAll(OvensAbove x) {
        is(x.write(9, 0), BAD);
        is(x.tower(), LATE);
        is(x.about(10), BAD);
        is(x.kiln(5, 4), UNKNOWN);
        is(x.pot(5, 8), UNKNOWN);
        is(x.open(5, 11), UNKNOWN);
        is(x.damp(5, 11), UNKNOWN);
        is(x.put(5, 5), UNKNOWN);
        is(x.quarter(10), BAD);
        is(x.warm(5, 0, 10), UNKNOWN);
        is(x.then(5, 0, 10), UNKNOWN);
        is(x.least(32, 4), BAD);
        is(x.leastAt(32, 4, 4), BAD);
        is(x.floors(0, 10), BAD);
        is(x.floorAt(5, 0, 10), UNKNOWN);
        is(x.openFor(5, 5, 0, 10), UNKNOWN);
        is(x.gales(5, 0, 10, 11, true), UNKNOWN);
        is(x.cone(5, 0, 10, 100, true), UNKNOWN);
        is(x.blame(5), UNKNOWN);
        is(x.owed(5, true), UNKNOWN);
        is(x.keep(2), UNKNOWN);
        is(x.again(2), UNKNOWN);
    }
}
