import java.math.BigInteger;
import java.util.ArrayDeque;
import java.util.ArrayList;
import java.util.Arrays;
import java.util.Deque;
import java.util.List;

/**
 * Long runs of calls on OvensAbove and on a second model, which is written from the document by
 * itself, in other ways, and only to be plain. The runs are the same each time.
 */
public final class MirrorTests {
    private static final int RUNS = 900;
    private static final int CALLS = 500;
    private static int wrong = 0;
    private static int asked = 0;

    public static void main(String[] args) {
        for (int run = 0; run < RUNS && wrong < 20; run++) {
            new Run(run).go();
        }
        System.out.println(wrong == 0 ? asked + " answers are as the mirror's" : wrong + " answers are not");
        if (wrong != 0) {
            System.exit(1);
        }
    }

    // ---- the mirror

    private static final class Pot {
        final int kind, l, h, t, b;
        int kiln, has, how;

        Pot(int kiln, int kind, int l, int h, int t, int b) {
            this.kiln = kiln;
            this.kind = kind;
            this.l = l;
            this.h = h;
            this.t = t;
            this.b = b;
        }

        Pot twin() {
            Pot p = new Pot(kiln, kind, l, h, t, b);
            p.has = has;
            p.how = how;
            return p;
        }
    }

    private static final class World {
        int n = 2;
        long[] heat = new long[5];
        int[] shutter = {5, 5, 5, 5, 5};
        int[] damper = new int[5];
        long out = 0;
        List<Pot> pots = new ArrayList<>();

        World twin() {
            World w = new World();
            w.n = n;
            w.heat = heat.clone();
            w.shutter = shutter.clone();
            w.damper = damper.clone();
            w.out = out;
            for (Pot p : pots) {
                w.pots.add(p.twin());
            }
            return w;
        }

        long all() {
            return Arrays.stream(heat).sum();
        }

        int fire(int wood, boolean gale) {
            long[] was = heat.clone();
            long[] next = heat.clone();
            long[] rose = new long[6];
            for (int i = 0; i < n; i++) {
                rose[i + 1] = was[i] * shutter[i] / 10;
                long away = was[i] * damper[i] / 10;
                next[i] -= rose[i + 1] + away;
                out += away;
                if (i + 1 < n) {
                    next[i + 1] += rose[i + 1];
                } else {
                    out += rose[i + 1];
                }
            }
            next[0] += 20L * wood;
            if (gale) {
                for (int i = 0; i < n; i++) {
                    next[i] = next[i] - next[i] / 10;
                }
            }
            heat = next;
            int bits = 0;
            for (int i = 0; i < pots.size(); i++) {
                Pot p = pots.get(i);
                if (p.how == 0) {
                    feel(p, was, rose);
                    bits += p.how != 0 ? 1 << i : 0;
                }
            }
            return bits;
        }

        private void feel(Pot p, long[] was, long[] rose) {
            long bears = 10L * p.b * (p.kind == 3 ? 2 : 1);
            if (heat[p.kiln] > was[p.kiln] + bears || heat[p.kiln] < was[p.kiln] - bears) {
                p.how = 2;
                return;
            }
            if (p.kind == 2 && p.kiln > 0 && rose[p.kiln] > 0) {
                for (Pot q : pots) {
                    if (q.kind == 1 && q.kiln + 1 == p.kiln) {
                        p.how = 3;
                        return;
                    }
                }
            }
            if (heat[p.kiln] >= p.l * 10 && heat[p.kiln] <= p.h * 10) {
                p.has++;
                if (p.has == p.t) {
                    p.how = 1;
                }
            }
        }

        World behind(int quarters, int wood) {
            World w = twin();
            for (int i = 0; i < quarters; i++) {
                w.fire(wood, false);
            }
            return w;
        }

        int count(int how) {
            int c = 0;
            for (Pot p : pots) {
                c += p.how == how ? 1 : 0;
            }
            return c;
        }
    }

    private static boolean isTower(String text) {
        if (!text.matches("(?s)K[2-5](S[0-4][0-9][0-9]|P[0-4][0-3][0-9][0-9][1-9][1-9])*")) {
            return false;
        }
        int n = text.charAt(1) - '0';
        String seen = "";
        int pots = 0;
        for (int at = 2; at < text.length();) {
            int kiln = text.charAt(at + 1) - '0';
            if (kiln >= n) {
                return false;
            }
            if (text.charAt(at) == 'S') {
                if (seen.indexOf('0' + kiln) >= 0 || text.charAt(at + 2) + text.charAt(at + 3) - 96 > 10) {
                    return false;
                }
                seen += kiln;
                at += 4;
            } else {
                pots++;
                if (pots > 5 || text.charAt(at + 4) < text.charAt(at + 3)) {
                    return false;
                }
                at += 7;
            }
        }
        return true;
    }

    /** Whether something behind it can make it a tower: all ends that can matter are tried. */
    private static boolean canBeTower(String text) {
        if (text.isEmpty() || text.equals("K")) {
            return true;
        }
        for (String end : ENDS) {
            if (isTower(text + end)) {
                return true;
            }
        }
        return false;
    }

    private static final List<String> ENDS = ends();

    private static List<String> ends() {
        List<String> ends = new ArrayList<>();
        ends.add("");
        String digits = "012349";
        List<String> longer = new ArrayList<>(List.of(""));
        for (int length = 1; length <= 3; length++) {
            List<String> next = new ArrayList<>();
            for (String s : longer) {
                for (char c : digits.toCharArray()) {
                    next.add(s + c);
                }
            }
            longer = next;
            ends.addAll(next);
        }
        ends.add("0911");
        ends.add("00911");
        ends.add("000911");
        return ends;
    }

    private static int faultOf(String text) {
        for (int i = 0; i < text.length(); i++) {
            if (!canBeTower(text.substring(0, i + 1))) {
                return i;
            }
        }
        return isTower(text) ? -9 : text.length();
    }

    private static final class Mirror {
        String text = "";
        World now = new World();
        Deque<World> row = new ArrayDeque<>();
        World[] slots = new World[2];
        List<int[]> cones = new ArrayList<>();

        int write(int n, long v) {
            if (n < 1 || n > 8) {
                return -2;
            }
            if (text.length() + n > 64) {
                return -4;
            }
            byte[] eight = java.nio.ByteBuffer.allocate(8).putLong(v).array();
            for (int i = 8 - n; i < 8; i++) {
                text += (char) (eight[i] & 255);
            }
            return text.length();
        }

        int wipe() {
            int was = text.length();
            text = "";
            return was;
        }

        int fault() {
            return faultOf(text);
        }

        int tower() {
            if (!isTower(text)) {
                return -3;
            }
            now = new World();
            now.n = text.charAt(1) - '0';
            for (String part : text.substring(2).split("(?=[SP])")) {
                if (part.isEmpty()) {
                    continue;
                }
                int[] d = part.chars().map(c -> c - '0').toArray();
                if (part.charAt(0) == 'S') {
                    now.shutter[d[1]] = d[2];
                    now.damper[d[1]] = d[3];
                } else {
                    now.pots.add(new Pot(d[1], d[2], d[3], d[4], d[5], d[6]));
                }
            }
            row.clear();
            slots = new World[2];
            return now.n;
        }

        int about(int what) {
            int[] all = {now.n, now.pots.size(), row.size(), (int) now.all(), (int) now.out,
                now.count(1), now.count(2), now.count(3), cones.size(), text.length()};
            return what < 0 || what > 9 ? -2 : all[what];
        }

        boolean noKiln(int kiln) {
            return kiln < 0 || kiln >= now.n;
        }

        boolean noPot(int pot) {
            return pot < 0 || pot >= now.pots.size();
        }

        int kiln(int kiln, int what) {
            if (noKiln(kiln)) {
                return -1;
            }
            int in = 0;
            for (int i = 0; i < now.pots.size(); i++) {
                in += now.pots.get(i).kiln == kiln ? 1 << i : 0;
            }
            int[] all = {(int) now.heat[kiln], now.shutter[kiln], now.damper[kiln], in};
            return what < 0 || what > 3 ? -2 : all[what];
        }

        int pot(int pot, int what) {
            if (noPot(pot)) {
                return -1;
            }
            Pot p = now.pots.get(pot);
            int[] all = {p.kiln, p.kind, p.l, p.h, p.t, p.b, p.has, p.how};
            return what < 0 || what > 7 ? -2 : all[what];
        }

        int open(int kiln, int s) {
            if (noKiln(kiln)) {
                return -1;
            }
            if (s < 0 || s > 10 || s + now.damper[kiln] > 10) {
                return -2;
            }
            int was = now.shutter[kiln];
            now.shutter[kiln] = s;
            return was;
        }

        int damp(int kiln, int d) {
            if (noKiln(kiln)) {
                return -1;
            }
            if (d < 0 || d > 10 || d + now.shutter[kiln] > 10) {
                return -2;
            }
            int was = now.damper[kiln];
            now.damper[kiln] = d;
            return was;
        }

        int put(int pot, int kiln) {
            if (noPot(pot) || noKiln(kiln)) {
                return -1;
            }
            Pot p = now.pots.get(pot);
            if (p.how != 0) {
                return -3;
            }
            int was = p.kiln;
            p.kiln = kiln;
            return was;
        }

        int quarter(int w) {
            if (w < 0 || w > 9) {
                return -2;
            }
            row.addLast(now.twin());
            if (row.size() > 12) {
                row.removeFirst();
            }
            return now.fire(w, false);
        }

        int undo() {
            if (row.isEmpty()) {
                return -3;
            }
            World was = row.removeLast();
            now.heat = was.heat.clone();
            now.out = was.out;
            for (int i = 0; i < now.pots.size(); i++) {
                now.pots.get(i).has = was.pots.get(i).has;
                now.pots.get(i).how = was.pots.get(i).how;
            }
            return row.size();
        }

        static boolean bad(int n, int most, int w) {
            return n < 1 || n > most || w < 0 || w > 9;
        }

        int warm(int kiln, int n, int w) {
            return noKiln(kiln) ? -1 : bad(n, 9, w) ? -2 : (int) now.behind(n, w).heat[kiln];
        }

        int then(int pot, int n, int w) {
            return noPot(pot) ? -1 : bad(n, 9, w) ? -2 : now.behind(n, w).pots.get(pot).how;
        }

        /** All woods, sorted by their sum and then by themselves: the first that does it. */
        int[] leastWoods(int pots, int n) {
            List<int[]> all = new ArrayList<>();
            for (int code = 0; code < (int) Math.pow(10, n); code++) {
                int[] woods = new int[n + 1];
                String s = String.format("%0" + n + "d", code);
                for (int i = 0; i < n; i++) {
                    woods[i] = s.charAt(i) - '0';
                    woods[n] += woods[i];
                }
                all.add(woods);
            }
            all.sort((a, b) -> a[n] - b[n]);
            for (int[] woods : all) {
                World w = now.twin();
                for (int i = 0; i < n; i++) {
                    w.fire(woods[i], false);
                }
                boolean ready = true;
                for (int i = 0; i < w.pots.size(); i++) {
                    ready &= (pots & 1 << i) == 0 || w.pots.get(i).how == 1;
                }
                if (ready) {
                    return woods;
                }
            }
            return null;
        }

        int least(int pots, int n) {
            if (pots < 0 || pots >= 1 << now.pots.size() || n < 1 || n > 3) {
                return -2;
            }
            int[] woods = leastWoods(pots, n);
            return woods == null ? -9 : woods[n];
        }

        int leastAt(int pots, int n, int i) {
            if (pots < 0 || pots >= 1 << now.pots.size() || n < 1 || n > 3) {
                return -2;
            }
            int[] woods = leastWoods(pots, n);
            return woods == null || i < 0 || i >= n ? -9 : woods[i];
        }

        World bestFloors(int n, int w, World from, int pot) {
            if (pot == from.pots.size()) {
                return from;
            }
            World best = null;
            for (int kiln = 0; kiln < from.n; kiln++) {
                World here = from.twin();
                if (here.pots.get(pot).how == 0) {
                    here.pots.get(pot).kiln = kiln;
                }
                World found = bestFloors(n, w, here, pot + 1);
                if (best == null || found.behind(n, w).count(1) > best.behind(n, w).count(1)) {
                    best = found;
                }
                if (here.pots.get(pot).how != 0) {
                    break;
                }
            }
            return best;
        }

        int floors(int n, int w) {
            return bad(n, 9, w) ? -2 : bestFloors(n, w, now, 0).behind(n, w).count(1);
        }

        int floorAt(int pot, int n, int w) {
            return noPot(pot) ? -1 : bad(n, 9, w) ? -2 : bestFloors(n, w, now, 0).pots.get(pot).kiln;
        }

        int openFor(int kiln, int pot, int n, int w) {
            if (noKiln(kiln) || noPot(pot)) {
                return -1;
            }
            if (bad(n, 9, w)) {
                return -2;
            }
            for (int s = 0; s + now.damper[kiln] <= 10; s++) {
                World world = now.twin();
                world.shutter[kiln] = s;
                if (world.behind(n, w).pots.get(pot).how == 1) {
                    return s;
                }
            }
            return -9;
        }

        BigInteger cracks(World world, int pot, int n, int w, int x) {
            if (n == 0) {
                return world.pots.get(pot).how == 2 ? BigInteger.ONE : BigInteger.ZERO;
            }
            World still = world.twin();
            still.fire(w, false);
            World blown = world.twin();
            blown.fire(w, true);
            return cracks(still, pot, n - 1, w, x).multiply(BigInteger.valueOf(10 - x))
                    .add(cracks(blown, pot, n - 1, w, x).multiply(BigInteger.valueOf(x)));
        }

        long gales(int pot, int n, int w, int x, boolean upper) {
            if (noPot(pot)) {
                return -1;
            }
            if (bad(n, 8, w) || x < 0 || x > 10) {
                return -2;
            }
            return share(cracks(now, pot, n, w, x), BigInteger.TEN.pow(n), upper);
        }

        static long share(BigInteger above, BigInteger below, boolean upper) {
            return (upper ? above : below).divide(above.gcd(below)).longValueExact();
        }

        int cone(int kiln, int n, int w, int c, boolean more) {
            if (noKiln(kiln)) {
                return -1;
            }
            if (bad(n, 9, w) || c < 0 || c > 99) {
                return -2;
            }
            if (cones.size() == 8) {
                return -4;
            }
            cones.add(new int[] {kiln, n, w, c, more ? 1 : 0});
            return cones.size();
        }

        int uncone() {
            int were = cones.size();
            cones.clear();
            return were;
        }

        int blame(int kiln) {
            if (noKiln(kiln)) {
                return -1;
            }
            int bits = 0;
            for (int s = 0; s <= 10 - now.damper[kiln]; s++) {
                boolean all = true;
                for (int[] cone : cones) {
                    World w = now.twin();
                    w.heat = new long[5];
                    w.shutter[kiln] = s;
                    w.pots.clear();
                    boolean isMore = w.behind(cone[1], cone[2]).heat[cone[0]] >= 10 * cone[3];
                    all &= cone[0] < now.n && isMore == (cone[4] == 1);
                }
                bits |= all ? 1 << s : 0;
            }
            return bits;
        }

        int owed(int kiln, boolean upper) {
            if (noKiln(kiln)) {
                return -1;
            }
            if (now.all() == 0) {
                return upper ? 0 : 1;
            }
            return (int) share(BigInteger.valueOf(now.heat[kiln]), BigInteger.valueOf(now.all()), upper);
        }

        int keep(int slot) {
            if (slot < 0 || slot > 1) {
                return -1;
            }
            slots[slot] = now.twin();
            return (int) now.all();
        }

        int again(int slot) {
            if (slot < 0 || slot > 1) {
                return -1;
            }
            if (slots[slot] == null) {
                return -3;
            }
            now = slots[slot].twin();
            row.clear();
            return (int) now.all();
        }
    }

    // ---- the runs

    private static final class Run {
        private final int number;
        private final OvensAbove x = new OvensAbove();
        private final Mirror m = new Mirror();
        private final StringBuilder told = new StringBuilder();
        private long seed;

        Run(int number) {
            this.number = number;
            seed = 88172645463325252L + 7919L * number;
        }

        int pick(int below) {
            seed ^= seed << 13;
            seed ^= seed >>> 7;
            seed ^= seed << 17;
            return (int) Math.floorMod(seed >>> 11, (long) below);
        }

        /** From least - 1 to most + 1, the outer two but seldom; far out still more seldom. */
        int about(int least, int most) {
            int r = pick(60);
            if (r == 0) {
                return least - 1;
            }
            if (r == 1) {
                return most + 1;
            }
            if (r == 2) {
                return new int[] {Integer.MIN_VALUE, Integer.MAX_VALUE, -1, 64}[pick(4)];
            }
            return least + pick(most - least + 1);
        }

        void due(String call, long got, long want) {
            asked++;
            told.append(call).append(" -> ").append(got).append('\n');
            if (got != want) {
                wrong++;
                System.out.println("run " + number + ": " + call + " answered " + got + ", the mirror says "
                        + want + ", the text is " + m.text);
                System.out.println(told.substring(Math.max(0, told.length() - 600)));
            }
        }

        void go() {
            calls = 0;
            writeTower();
            while (calls < CALLS - 40) {
                step();
            }
            look();
        }

        private int calls;

        void look() {
            for (int what = 0; what < 10; what++) {
                due("about(" + what + ")", x.about(what), m.about(what));
            }
            for (int i = 0; i < 5; i++) {
                due("kiln(" + i + ", 0)", x.kiln(i, 0), m.kiln(i, 0));
                due("kiln(" + i + ", 1)", x.kiln(i, 1), m.kiln(i, 1));
                due("kiln(" + i + ", 3)", x.kiln(i, 3), m.kiln(i, 3));
                due("pot(" + i + ", 0)", x.pot(i, 0), m.pot(i, 0));
                due("pot(" + i + ", 6)", x.pot(i, 6), m.pot(i, 6));
                due("pot(" + i + ", 7)", x.pot(i, 7), m.pot(i, 7));
            }
            calls += 40;
        }

        void writeTower() {
            due("wipe()", x.wipe(), m.wipe());
            calls++;
            StringBuilder text = new StringBuilder("K").append((char) ('2' + pick(4)));
            int kilns = text.charAt(1) - '0';
            int parts = 1 + pick(9);
            int pots = 0;
            int seen = 0;
            for (int i = 0; i < parts; i++) {
                int kiln = pick(kilns);
                if (pick(3) == 0 && (seen >> kiln & 1) == 0) {
                    int s = pick(10);
                    text.append('S').append(kiln).append(s).append(Math.min(9, pick(11 - s)));
                    seen |= 1 << kiln;
                } else if (pots < 5) {
                    int l = pick(pick(2) == 0 ? 10 : 4);
                    int h = l + pick(10 - l);
                    text.append('P').append(kiln).append(pick(3) == 0 ? pick(4) : 1 + pick(2)).append(l);
                    text.append(h).append(1 + pick(pick(2) == 0 ? 9 : 2)).append(9 - pick(pick(3) == 0 ? 9 : 4));
                    pots++;
                }
            }
            if (pick(4) == 0) {
                spoil(text);
            }
            append(text.toString());
            due("fault()", x.fault(), m.fault());
            due("tower()", x.tower(), m.tower());
            calls += 2;
        }

        void spoil(StringBuilder text) {
            int at = pick(text.length());
            switch (pick(4)) {
                case 0:
                    text.setLength(at);
                    break;
                case 1:
                    text.setCharAt(at, "KSP0123456789/:sp\u0000\u00B2\u00FF".charAt(pick(20)));
                    break;
                case 2:
                    text.append("SPx0".charAt(pick(4)));
                    break;
                default:
                    text.insert(at, (char) ('0' + pick(10)));
                    break;
            }
        }

        void append(String text) {
            for (int at = 0; at < text.length();) {
                int n = Math.min(text.length() - at, 1 + pick(8));
                long v = pick(2) == 0 ? 0 : seed;
                for (int i = 0; i < n; i++) {
                    v = v << 8 | text.charAt(at + i);
                }
                due("write(" + n + ", " + v + ")", x.write(n, v), m.write(n, v));
                calls++;
                at += n;
            }
        }

        int kiln() {
            return about(0, m.now.n - 1);
        }

        int pot() {
            return about(0, Math.max(0, m.now.pots.size() - 1));
        }

        void step() {
            calls++;
            int r = pick(200);
            if (r < 70) {
                change();
            } else if (r < 110) {
                ask();
            } else if (r < 150) {
                plan();
            } else if (r < 190) {
                tellCones();
            } else if (r < 198) {
                spoken();
            } else if (r < 199) {
                writeTower();
            } else {
                look();
            }
        }

        void change() {
            int a = kiln();
            int b = about(0, 10);
            int p = pot();
            switch (pick(8)) {
                case 0:
                    due("open(" + a + ", " + b + ")", x.open(a, b), m.open(a, b));
                    break;
                case 1:
                    due("damp(" + a + ", " + b + ")", x.damp(a, b), m.damp(a, b));
                    break;
                case 2:
                    due("put(" + p + ", " + a + ")", x.put(p, a), m.put(p, a));
                    break;
                case 3:
                    due("undo()", x.undo(), m.undo());
                    break;
                case 4:
                    int w = about(0, 9);
                    due("quarter(" + w + ")", x.quarter(w), m.quarter(w));
                    break;
                case 5:
                    int light = about(0, 3);
                    due("quarter(" + light + ")", x.quarter(light), m.quarter(light));
                    break;
                case 6:
                    int slot = about(0, 1);
                    due("keep(" + slot + ")", x.keep(slot), m.keep(slot));
                    break;
                default:
                    int kept = about(0, 1);
                    due("again(" + kept + ")", x.again(kept), m.again(kept));
                    break;
            }
        }

        void ask() {
            int a = kiln();
            int p = pot();
            int n = about(1, 9);
            int w = about(0, pick(2) == 0 ? 9 : 3);
            int what = about(0, 9);
            switch (pick(6)) {
                case 0:
                    due("about(" + what + ")", x.about(what), m.about(what));
                    break;
                case 1:
                    due("kiln(" + a + ", " + what % 5 + ")", x.kiln(a, what % 5), m.kiln(a, what % 5));
                    break;
                case 2:
                    due("pot(" + p + ", " + what + ")", x.pot(p, what), m.pot(p, what));
                    break;
                case 3:
                    due("warm(" + a + ", " + n + ", " + w + ")", x.warm(a, n, w), m.warm(a, n, w));
                    break;
                default:
                    due("then(" + p + ", " + n + ", " + w + ")", x.then(p, n, w), m.then(p, n, w));
                    break;
            }
        }

        void plan() {
            int a = kiln();
            int p = pot();
            int n = about(1, 9);
            int few = about(1, 3);
            int w = about(0, pick(2) == 0 ? 9 : 3);
            int pots = pick(3) == 0 ? about(0, (1 << m.now.pots.size()) - 1) : 1 << p;
            int i = about(0, 2);
            int gale = about(0, 10);
            boolean upper = pick(2) == 0;
            String behind = ", " + n + ", " + w + ")";
            switch (pick(8)) {
                case 0:
                    due("least(" + pots + ", " + few + ")", x.least(pots, few), m.least(pots, few));
                    break;
                case 1:
                    due("leastAt(" + pots + ", " + few + ", " + i + ")", x.leastAt(pots, few, i),
                            m.leastAt(pots, few, i));
                    break;
                case 2:
                    if (pick(8) == 0) {
                        due("floors(" + n + ", " + w + ")", x.floors(n, w), m.floors(n, w));
                    }
                    break;
                case 3:
                    if (pick(8) == 0) {
                        due("floorAt(" + p + behind, x.floorAt(p, n, w), m.floorAt(p, n, w));
                    }
                    break;
                case 4:
                case 5:
                    due("openFor(" + a + ", " + p + behind, x.openFor(a, p, n, w), m.openFor(a, p, n, w));
                    break;
                default:
                    due("gales(" + p + ", " + n + ", " + w + ", " + gale + ", " + upper + ")",
                            x.gales(p, n, w, gale, upper), m.gales(p, n, w, gale, upper));
                    break;
            }
        }

        void tellCones() {
            int a = kiln();
            int n = about(1, 9);
            int w = about(0, 9);
            int c = about(0, pick(2) == 0 ? 99 : 12);
            boolean more = pick(2) == 0;
            switch (pick(6)) {
                case 0:
                case 1:
                    // Mostly what is true of some shutter, so that there is something to blame.
                    if (n > 0 && n < 10 && w >= 0 && w < 10 && a >= 0 && a < m.now.n && pick(4) > 0) {
                        World cold = m.now.twin();
                        cold.heat = new long[5];
                        cold.pots.clear();
                        c = (int) Math.min(99, cold.behind(n, w).heat[a] / 10 + (more ? 0 : 1));
                    }
                    due("cone(" + a + ", " + n + ", " + w + ", " + c + ", " + more + ")",
                            x.cone(a, n, w, c, more), m.cone(a, n, w, c, more));
                    break;
                case 2:
                    if (pick(6) == 0) {
                        due("uncone()", x.uncone(), m.uncone());
                    }
                    break;
                case 3:
                case 4:
                    due("blame(" + a + ")", x.blame(a), m.blame(a));
                    break;
                default:
                    due("owed(" + a + ", " + more + ")", x.owed(a, more), m.owed(a, more));
                    break;
            }
        }

        void spoken() {
            int n = about(1, 8);
            switch (pick(4)) {
                case 0:
                    due("write(" + n + ", " + seed + ")", x.write(n, seed), m.write(n, seed));
                    break;
                case 1:
                    due("fault()", x.fault(), m.fault());
                    break;
                case 2:
                    due("tower()", x.tower(), m.tower());
                    break;
                default:
                    if (pick(3) == 0) {
                        due("wipe()", x.wipe(), m.wipe());
                    }
                    break;
            }
        }
    }
}
