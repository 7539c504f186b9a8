import java.util.ArrayList;
import java.util.HashSet;
import java.util.List;
import java.util.Map;
import java.util.Set;
import java.util.function.Consumer;
import java.util.function.ToLongFunction;

/**
 * What the tests of bounds share. Each test has its promise, the words of the document that it
 * rests on, and a name of its own; it makes its own objects.
 */
abstract class Bounds {
    static final int UNKNOWN = -1, BAD = -2, LATE = -3, FULL = -4, NONE = -9;
    static final int MIN = Integer.MIN_VALUE, MAX = Integer.MAX_VALUE;

    /** Five kilns, all shutters and five pots told: no text that is a tower is longer. */
    static final String LONGEST = "K5S055S145S236S327S418P000919P110119P220999P030011P409999";

    /** As it is when it has been made. */
    static final Consumer<OvensAbove> NEW = x -> { };
    /** Three kilns and pots, one of them READY; two quarters, two cones, slot 1; a text with a fault. */
    static final Consumer<OvensAbove> SOME = Bounds::makeSome;
    /** All of everything: kilns, pots (READY, CRACKED, BLED, not done), the row, cones, slots, the text. */
    static final Consumer<OvensAbove> MOST = Bounds::makeMost;

    private static final Document document = new Document();
    private static final Set<String> names = new HashSet<>();
    private static final List<String> wrong = new ArrayList<>();
    private static int promise;
    private static String words;
    private static String name;
    private static int tests;

    // ---- tests

    static void promise(int number) {
        promise = number;
        words = null;
    }

    /** What the tests behind it rest on. */
    static void says(String words) {
        Bounds.words = words;
        name = words;
        if (!document.holds(promise, words)) {
            fail("the document does not say so");
        }
    }

    static void test(String name, Runnable steps) {
        Bounds.name = name;
        tests++;
        if (words == null || !names.add(promise + name)) {
            fail("it has no words, or its name is not its own");
        }
        try {
            steps.run();
        } catch (RuntimeException e) {
            fail("threw " + e);
        }
    }

    static void is(long got, long want) {
        if (got != want) {
            fail("answered " + got + ", due is " + want);
        }
    }

    private static void fail(String why) {
        wrong.add("promise " + promise + ", '" + words + "': " + name + ": " + why);
    }

    static void end() {
        wrong.forEach(System.out::println);
        List<String> untested = document.untested();
        untested.forEach(clause -> System.out.println("no test rests on: " + clause));
        System.out.println(tests + " bounds were tested, " + wrong.size() + " answers are not as due");
        if (!wrong.isEmpty() || !untested.isEmpty()) {
            System.exit(1);
        }
    }

    // ---- objects

    static void append(OvensAbove x, String text) {
        for (int i = 0; i < text.length(); i += 8) {
            long v = 0;
            int n = Math.min(8, text.length() - i);
            for (int j = i; j < i + n; j++) {
                v = v << 8 | text.charAt(j);
            }
            x.write(n, v);
        }
    }

    static OvensAbove telling(String text) {
        OvensAbove x = new OvensAbove();
        append(x, text);
        return x;
    }

    static void retell(OvensAbove x, String text) {
        x.wipe();
        append(x, text);
        is(x.tower(), text.charAt(1) - '0');
    }

    static OvensAbove of(String text) {
        OvensAbove x = new OvensAbove();
        retell(x, text);
        return x;
    }

    static OvensAbove in(Consumer<OvensAbove> state) {
        OvensAbove x = new OvensAbove();
        state.accept(x);
        return x;
    }

    private static void makeSome(OvensAbove x) {
        retell(x, "K3S145P000919P120999P210929");
        x.quarter(4);
        x.keep(1);
        x.open(2, 3);
        x.damp(0, 2);
        x.put(1, 2);
        x.quarter(1);
        x.cone(1, 2, 5, 3, true);
        x.cone(2, 3, 9, 4, false);
        append(x, "S");
    }

    private static void makeMost(OvensAbove x) {
        retell(x, LONGEST);
        for (int i = 0; i < 14; i++) {
            x.quarter(i == 0 ? 4 : i % 3);
            if (i == 5 || i == 10) {
                x.keep(i / 10);
            }
        }
        x.open(4, 2);
        x.damp(0, 3);
        x.put(4, 3);
        for (int i = 0; i < 8; i++) {
            x.cone(i % 5, 2 + i, 9, i + 1, i % 4 != 0);
        }
        append(x, "S000P00");
    }

    // ---- what is refused, or only asked for

    /** A call is refused whatever the state is, and changes nothing. */
    static void refused(long want, ToLongFunction<OvensAbove> call) {
        refusedIn(NEW, want, call);
        refusedWithPots(want, call);
    }

    static void refusedWithPots(long want, ToLongFunction<OvensAbove> call) {
        refusedIn(SOME, want, call);
        refusedIn(MOST, want, call);
    }

    static void refusedIn(Consumer<OvensAbove> state, long want, ToLongFunction<OvensAbove> call) {
        is(call.applyAsLong(in(state)), want);
        changesNothingIn(state, call);
    }

    static void changesNothing(ToLongFunction<OvensAbove> call) {
        changesNothingIn(NEW, call);
        changesNothingIn(SOME, call);
        changesNothingIn(MOST, call);
    }

    static void changesNothingIn(Consumer<OvensAbove> state, ToLongFunction<OvensAbove> call) {
        changesOnly(state, call);
    }

    /** Whatever is told behind the call may be changed by it, all else may not. */
    static void changesOnly(Consumer<OvensAbove> state, ToLongFunction<OvensAbove> call, String... may) {
        Map<String, String> before = Looks.of(state);
        Map<String, String> after = Looks.of(state.andThen(call::applyAsLong));
        Set<String> free = Set.of(may);
        before.forEach((look, seen) -> {
            if (!free.contains(look) && !seen.equals(after.get(look))) {
                fail(look + " was changed from " + seen + " to " + after.get(look));
            }
        });
    }

    /** Both come to the same, but for what is told behind them. */
    static void same(Consumer<OvensAbove> one, Consumer<OvensAbove> other, String... but) {
        Map<String, String> seen = Looks.of(other);
        Set<String> free = Set.of(but);
        Looks.of(one).forEach((look, want) -> {
            if (!free.contains(look) && !want.equals(seen.get(look))) {
                fail(look + " is " + seen.get(look) + ", due is " + want);
            }
        });
    }
}
