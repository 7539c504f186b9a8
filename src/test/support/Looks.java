import java.util.LinkedHashMap;
import java.util.Map;
import java.util.function.Consumer;
import java.util.function.Function;

/**
 * All that calls can tell of an object. Some looks change what they look at, so each of them is made
 * on an object of its own, which is brought to the same state by the same calls.
 */
final class Looks {
    static final String TOWER = "the tower";
    static final String AHEAD = "what is ahead";
    static final String ROW = "the row";
    static final String TEXT = "the text";
    static final String CONES = "the cones";
    static final String[] SLOTS = {"slot 0", "slot 1"};

    private static final Map<String, Function<OvensAbove, String>> ALL = all();

    private Looks() {
    }

    private static Map<String, Function<OvensAbove, String>> all() {
        Map<String, Function<OvensAbove, String>> all = new LinkedHashMap<>();
        all.put(TOWER, Looks::tower);
        all.put(AHEAD, Looks::ahead);
        all.put(ROW, Looks::row);
        all.put(TEXT, Looks::text);
        all.put(CONES, Looks::cones);
        all.put(SLOTS[0], x -> slot(x, 0));
        all.put(SLOTS[1], x -> slot(x, 1));
        return all;
    }

    static Map<String, String> of(Consumer<OvensAbove> state) {
        Map<String, String> seen = new LinkedHashMap<>();
        ALL.forEach((name, look) -> {
            OvensAbove x = new OvensAbove();
            state.accept(x);
            seen.put(name, look.apply(x));
        });
        return seen;
    }

    private static String tower(OvensAbove x) {
        StringBuilder seen = new StringBuilder();
        for (int what = 0; what <= 1; what++) {
            seen.append(x.about(what)).append(' ');
        }
        for (int what = 3; what <= 7; what++) {
            seen.append(x.about(what)).append(' ');
        }
        for (int i = 0; i < 5; i++) {
            for (int what = 0; what <= 7; what++) {
                seen.append(what < 4 ? x.kiln(i, what) : 0).append(' ').append(x.pot(i, what)).append(' ');
            }
        }
        return seen.toString();
    }

    private static String ahead(OvensAbove x) {
        StringBuilder seen = new StringBuilder();
        for (int i = 0; i < 5; i++) {
            for (int n = 1; n <= 9; n += 4) {
                seen.append(x.warm(i, n, 0)).append(' ').append(x.warm(i, n, 3)).append(' ');
                seen.append(x.then(i, n, 2)).append(' ').append(x.openFor(i, i, n, 1)).append(' ');
            }
            seen.append(x.owed(i, true)).append(' ').append(x.owed(i, false)).append(' ');
            seen.append(x.least(1 << i, 2)).append(' ').append(x.floorAt(i, 3, 2)).append(' ');
        }
        return seen.toString();
    }

    private static String row(OvensAbove x) {
        StringBuilder seen = new StringBuilder().append(x.about(2));
        for (int i = 0; i < 13; i++) {
            seen.append(" | ").append(x.undo());
            for (int what = 3; what <= 7; what++) {
                seen.append(' ').append(x.about(what));
            }
            for (int j = 0; j < 5; j++) {
                seen.append(' ').append(x.kiln(j, 0)).append(' ').append(x.pot(j, 6)).append(' ').append(x.pot(j, 7));
            }
        }
        return seen.toString();
    }

    private static String text(OvensAbove x) {
        StringBuilder seen = new StringBuilder().append(x.about(9)).append(' ').append(x.fault()).append(' ');
        int kilns = x.tower();
        seen.append(kilns).append(' ').append(kilns > 0 ? tower(x) : "");
        seen.append(x.write(1, 'P')).append(' ').append(x.fault()).append(' ').append(x.wipe());
        return seen.toString();
    }

    private static String cones(OvensAbove x) {
        StringBuilder seen = new StringBuilder().append(x.about(8));
        for (int i = 0; i < 5; i++) {
            seen.append(' ').append(x.blame(i));
        }
        // In five kilns with other shutters, as a cone may be true or not whatever the shutters are.
        x.wipe();
        x.write(2, 'K' << 8 | '5');
        x.tower();
        for (int s = 0; s <= 10; s++) {
            x.open(1, s);
            seen.append(' ').append(x.blame(0)).append(' ').append(x.blame(4));
        }
        return seen.append(' ').append(x.uncone()).toString();
    }

    private static String slot(OvensAbove x, int slot) {
        int heat = x.again(slot);
        return heat < 0 ? "none " + heat : heat + " " + x.undo() + " " + tower(x);
    }
}
