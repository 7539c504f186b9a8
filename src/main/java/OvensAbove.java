/**
 * Ovens one above another: a tower of kilns fed by one fire at its foot, and the pots in them.
 * What each call must answer stands in ../shared/DOC.md; the promises' numbers are told below.
 */
public final class OvensAbove {
    public static final int UNKNOWN = -1, BAD = -2, LATE = -3, FULL = -4, NONE = -9;

    private static final int LEAST_KILNS = 2;
    private static final int MOST_KILNS = 5;
    private static final int MOST_POTS = 5;
    private static final int MOST_BYTES = 64;
    private static final int MOST_CONES = 8;
    private static final int SLOTS = 2;
    private static final int ROW = 12;
    private static final int TENTHS = 10;
    private static final int MOST_WOOD = 9;
    private static final int MOST_AHEAD = 9;
    private static final int MOST_PLANNED = 3;
    private static final int MOST_WINDY = 8;
    private static final int FIRST_SHUTTER = 5;
    /** Far above what a common divisor of two longs can need. */
    private static final int MOST_STEPS = 200;

    private static final int NOT_DONE = 0;
    private static final int READY = 1;
    private static final int CRACKED = 2;
    private static final int BLED = 3;

    private final Text text;
    private final Reading reading;
    private final Told told;
    private final Tower now;
    private final Row row;
    private final Tower[] slots;
    private final boolean[] kept;
    private final Cones cones;
    private final Plans plans;
    private final Woods woods;
    private final Floors floors;

    // Promise 1
    public OvensAbove() {
        text = new Text();
        reading = new Reading();
        told = new Told();
        now = new Tower(told);
        row = new Row(told);
        slots = new Tower[SLOTS];
        for (int i = 0; i < SLOTS; i++) {
            slots[i] = new Tower(told);
        }
        kept = new boolean[SLOTS];
        Tower trial = new Tower(told);
        cones = new Cones(now.kilns, trial.kilns);
        plans = new Plans(now, trial);
        woods = new Woods(now);
        floors = new Floors(now, trial);
    }

    // ---- the tower

    // Promise 2
    public int write(int n, long v) {
        if (n < 1 || n > 8) {
            return BAD;
        }
        if (!text.hasRoomFor(n)) {
            return FULL;
        }
        return text.append(n, v);
    }

    // Promise 3
    public int wipe() {
        return text.clear();
    }

    // Promise 4
    public int fault() {
        return reading.read(text);
    }

    // Promise 5
    public int tower() {
        if (reading.read(text) != NONE) {
            return LATE;
        }
        told.copyFrom(reading);
        now.build(reading);
        row.forget();
        for (int i = 0; i < SLOTS; i++) {
            kept[i] = false;
        }
        return now.kilns.count;
    }

    // Promise 6
    public int about(int what) {
        switch (what) {
            case 0:
                return now.kilns.count;
            case 1:
                return told.count;
            case 2:
                return row.length();
            case 3:
                return now.kilns.allHeat();
            case 4:
                return now.kilns.out;
            case 5:
                return now.pots.howMany(READY);
            case 6:
                return now.pots.howMany(CRACKED);
            case 7:
                return now.pots.howMany(BLED);
            case 8:
                return cones.count();
            case 9:
                return text.length();
            default:
                return BAD;
        }
    }

    // Promise 7
    public int kiln(int kiln, int what) {
        if (!now.kilns.isThere(kiln)) {
            return UNKNOWN;
        }
        switch (what) {
            case 0:
                return now.kilns.heat[kiln];
            case 1:
                return now.kilns.shutter[kiln];
            case 2:
                return now.kilns.damper[kiln];
            case 3:
                return now.pots.potsIn(kiln);
            default:
                return BAD;
        }
    }

    // Promise 8
    public int pot(int pot, int what) {
        if (!told.isThere(pot)) {
            return UNKNOWN;
        }
        switch (what) {
            case 0:
                return now.pots.place[pot];
            case 1:
                return told.kind[pot];
            case 2:
                return told.low[pot];
            case 3:
                return told.high[pot];
            case 4:
                return told.time[pot];
            case 5:
                return told.bears[pot];
            case 6:
                return now.pots.has[pot];
            case 7:
                return now.pots.how[pot];
            default:
                return BAD;
        }
    }

    // Promise 9
    public int open(int kiln, int s) {
        if (!now.kilns.isThere(kiln)) {
            return UNKNOWN;
        }
        if (s < 0 || s > TENTHS - now.kilns.damper[kiln]) {
            return BAD;
        }
        int was = now.kilns.shutter[kiln];
        now.kilns.shutter[kiln] = s;
        return was;
    }

    // Promise 10
    public int damp(int kiln, int d) {
        if (!now.kilns.isThere(kiln)) {
            return UNKNOWN;
        }
        if (d < 0 || d > TENTHS - now.kilns.shutter[kiln]) {
            return BAD;
        }
        int was = now.kilns.damper[kiln];
        now.kilns.damper[kiln] = d;
        return was;
    }

    // Promise 11
    public int put(int pot, int kiln) {
        if (!told.isThere(pot) || !now.kilns.isThere(kiln)) {
            return UNKNOWN;
        }
        if (now.pots.how[pot] != NOT_DONE) {
            return LATE;
        }
        int was = now.pots.place[pot];
        now.pots.place[pot] = kiln;
        return was;
    }

    // ---- fired

    // Promise 12
    public int quarter(int w) {
        if (!isWood(w)) {
            return BAD;
        }
        row.add(now);
        return now.fire(w);
    }

    // Promise 13
    public int undo() {
        if (row.length() == 0) {
            return LATE;
        }
        return row.takeBack(now);
    }

    // Promise 14
    public int warm(int kiln, int n, int w) {
        if (!now.kilns.isThere(kiln)) {
            return UNKNOWN;
        }
        if (!isSpan(n, MOST_AHEAD) || !isWood(w)) {
            return BAD;
        }
        return plans.heatBehind(kiln, n, w);
    }

    // Promise 15
    public int then(int pot, int n, int w) {
        if (!told.isThere(pot)) {
            return UNKNOWN;
        }
        if (!isSpan(n, MOST_AHEAD) || !isWood(w)) {
            return BAD;
        }
        return plans.howBehind(pot, n, w);
    }

    // ---- plans

    // Promise 16
    public int least(int pots, int n) {
        if (!told.isSet(pots) || !isSpan(n, MOST_PLANNED)) {
            return BAD;
        }
        return woods.search(pots, n);
    }

    // Promise 17
    public int leastAt(int pots, int n, int i) {
        if (!told.isSet(pots) || !isSpan(n, MOST_PLANNED)) {
            return BAD;
        }
        if (i < 0 || i >= n) {
            return NONE;
        }
        return woods.search(pots, n) == NONE ? NONE : woods.best[i];
    }

    // Promise 18
    public int floors(int n, int w) {
        if (!isSpan(n, MOST_AHEAD) || !isWood(w)) {
            return BAD;
        }
        return floors.search(n, w);
    }

    // Promise 19
    public int floorAt(int pot, int n, int w) {
        if (!told.isThere(pot)) {
            return UNKNOWN;
        }
        if (!isSpan(n, MOST_AHEAD) || !isWood(w)) {
            return BAD;
        }
        floors.search(n, w);
        return floors.best[pot];
    }

    // Promise 20
    public int openFor(int kiln, int pot, int n, int w) {
        if (!now.kilns.isThere(kiln) || !told.isThere(pot)) {
            return UNKNOWN;
        }
        if (!isSpan(n, MOST_AHEAD) || !isWood(w)) {
            return BAD;
        }
        return plans.fewestTenths(kiln, pot, n, w);
    }

    // Promise 21
    public long gales(int pot, int n, int w, int x, boolean upper) {
        if (!told.isThere(pot)) {
            return UNKNOWN;
        }
        if (!isSpan(n, MOST_WINDY) || !isWood(w) || x < 0 || x > TENTHS) {
            return BAD;
        }
        return part(plans.crackingWays(pot, n, w, x), Plans.power(TENTHS, n), upper);
    }

    // ---- cones, shares

    // Promise 22
    public int cone(int kiln, int n, int w, int c, boolean more) {
        if (!now.kilns.isThere(kiln)) {
            return UNKNOWN;
        }
        if (!isSpan(n, MOST_AHEAD) || !isWood(w) || c < 0 || c > 99) {
            return BAD;
        }
        if (cones.count() >= MOST_CONES) {
            return FULL;
        }
        return cones.add(kiln, n, w, c, more);
    }

    // Promise 23
    public int uncone() {
        return cones.clear();
    }

    // Promise 24
    public int blame(int kiln) {
        if (!now.kilns.isThere(kiln)) {
            return UNKNOWN;
        }
        return cones.trueTenths(kiln);
    }

    // Promise 25
    public int owed(int kiln, boolean upper) {
        if (!now.kilns.isThere(kiln)) {
            return UNKNOWN;
        }
        return (int) part(now.kilns.heat[kiln], now.kilns.allHeat(), upper);
    }

    // ---- slots

    // Promise 26
    public int keep(int slot) {
        if (slot < 0 || slot >= SLOTS) {
            return UNKNOWN;
        }
        slots[slot].copyFrom(now);
        kept[slot] = true;
        return now.kilns.allHeat();
    }

    // Promise 27
    public int again(int slot) {
        if (slot < 0 || slot >= SLOTS) {
            return UNKNOWN;
        }
        if (!kept[slot]) {
            return LATE;
        }
        now.copyFrom(slots[slot]);
        row.forget();
        return now.kilns.allHeat();
    }

    private static boolean isWood(int w) {
        return w >= 0 && w <= MOST_WOOD;
    }

    private static boolean isSpan(int n, int most) {
        return n >= 1 && n <= most;
    }

    /** One side of a fraction in least terms; 0 by 1, if there is nothing to share. */
    private static long part(long above, long below, boolean upper) {
        long common = commonDivisor(above, below);
        if (common == 0) {
            return upper ? 0 : 1;
        }
        return (upper ? above : below) / common;
    }

    private static long commonDivisor(long a, long b) {
        long greater = a;
        long smaller = b;
        for (int i = 0; i < MOST_STEPS && smaller != 0; i++) {
            long rest = greater % smaller;
            greater = smaller;
            smaller = rest;
        }
        return greater;
    }

    /** The text's bytes, as they were written. */
    private static final class Text {
        private static final int NO_BYTE = -1;
        private static final int NO_DIGIT = -1;

        private final int[] bytes = new int[MOST_BYTES];
        private int length;

        int length() {
            return length;
        }

        boolean hasRoomFor(int n) {
            return length + n <= MOST_BYTES;
        }

        int append(int n, long v) {
            for (int left = n - 1; left >= 0 && length < MOST_BYTES; left--) {
                bytes[length] = (int) (v >>> (8 * left)) & 255;
                length++;
            }
            return length;
        }

        int clear() {
            int was = length;
            length = 0;
            return was;
        }

        int byteAt(int place) {
            return place < 0 || place >= length ? NO_BYTE : bytes[place];
        }

        int digitAt(int place) {
            int sign = byteAt(place);
            return sign < '0' || sign > '9' ? NO_DIGIT : sign - '0';
        }
    }

    /** What the text tells, read up to its first fault. */
    private static final class Reading {
        private static final int HEAD_BYTES = 2;
        private static final int SHUTTER_BYTES = 4;
        private static final int POT_BYTES = 7;
        private static final int MOST_PARTS = MOST_KILNS + MOST_POTS;
        private static final int MOST_KIND = 3;

        final int[] shutter = new int[MOST_KILNS];
        final int[] damper = new int[MOST_KILNS];
        final int[][] digits = new int[MOST_POTS][POT_BYTES - 1];
        int kilns;
        int pots;
        private final boolean[] isTold = new boolean[MOST_KILNS];
        private int shuttersTold;

        /**
         * Answers the fault. A byte that is not there fits nowhere, so what only ends too early
         * has its fault at its length.
         */
        int read(Text text) {
            if (text.byteAt(0) != 'K') {
                return 0;
            }
            int n = text.digitAt(1);
            if (n < LEAST_KILNS || n > MOST_KILNS) {
                return 1;
            }
            begin(n);
            return readParts(text);
        }

        private void begin(int n) {
            kilns = n;
            pots = 0;
            shuttersTold = 0;
            for (int i = 0; i < MOST_KILNS; i++) {
                shutter[i] = FIRST_SHUTTER;
                damper[i] = 0;
                isTold[i] = false;
            }
        }

        private int readParts(Text text) {
            int at = HEAD_BYTES;
            // One part more than can be told: that one is the fault.
            for (int parts = 0; parts <= MOST_PARTS && at < text.length(); parts++) {
                boolean isPot = text.byteAt(at) == 'P';
                int bad = isPot ? readPot(text, at) : readShutter(text, at);
                if (bad != NONE) {
                    return bad;
                }
                at += isPot ? POT_BYTES : SHUTTER_BYTES;
            }
            return NONE;
        }

        private int readShutter(Text text, int at) {
            // When all are told, no i could come behind the S.
            if (text.byteAt(at) != 'S' || shuttersTold >= kilns) {
                return at;
            }
            int kiln = text.digitAt(at + 1);
            if (kiln < 0 || kiln >= kilns || isTold[kiln]) {
                return at + 1;
            }
            int s = text.digitAt(at + 2);
            if (s < 0) {
                return at + 2;
            }
            int d = text.digitAt(at + 3);
            if (d < 0 || s + d > TENTHS) {
                return at + 3;
            }
            shutter[kiln] = s;
            damper[kiln] = d;
            isTold[kiln] = true;
            shuttersTold++;
            return NONE;
        }

        private int readPot(Text text, int at) {
            if (pots >= MOST_POTS) {
                return at;
            }
            for (int i = 0; i < POT_BYTES - 1; i++) {
                int digit = text.digitAt(at + 1 + i);
                if (digit < leastDigit(i) || digit > mostDigit(i)) {
                    return at + 1 + i;
                }
                digits[pots][i] = digit;
            }
            pots++;
            return NONE;
        }

        private int leastDigit(int i) {
            switch (i) {
                case 3:
                    return digits[pots][2];
                case 4:
                case 5:
                    return 1;
                default:
                    return 0;
            }
        }

        private int mostDigit(int i) {
            switch (i) {
                case 0:
                    return kilns - 1;
                case 1:
                    return MOST_KIND;
                default:
                    return 9;
            }
        }
    }

    /** What the tower's text tells of each pot for good; one for a tower and all its copies. */
    private static final class Told {
        private static final int SALT = 1;
        private static final int RAW = 2;
        private static final int THICK = 3;

        final int[] kind = new int[MOST_POTS];
        final int[] low = new int[MOST_POTS];
        final int[] high = new int[MOST_POTS];
        final int[] time = new int[MOST_POTS];
        final int[] bears = new int[MOST_POTS];
        int count;

        void copyFrom(Reading reading) {
            count = reading.pots;
            for (int i = 0; i < count; i++) {
                kind[i] = reading.digits[i][1];
                low[i] = reading.digits[i][2];
                high[i] = reading.digits[i][3];
                time[i] = reading.digits[i][4];
                bears[i] = reading.digits[i][5];
            }
        }

        boolean isThere(int pot) {
            return pot >= 0 && pot < count;
        }

        boolean isSet(int pots) {
            return pots >= 0 && pots < 1 << count;
        }

        boolean isSalt(int pot) {
            return kind[pot] == SALT;
        }

        boolean isRaw(int pot) {
            return kind[pot] == RAW;
        }

        int mostJump(int pot) {
            return bears[pot] * (kind[pot] == THICK ? 20 : 10);
        }

        boolean wants(int pot, int heat) {
            return heat >= 10 * low[pot] && heat <= 10 * high[pot];
        }
    }

    /** The kilns' heat, shutters and dampers, and what went out of them. */
    private static final class Kilns {
        private static final int HEAT_OF_WOOD = 20;

        final int[] heat = new int[MOST_KILNS];
        final int[] shutter = new int[MOST_KILNS];
        final int[] damper = new int[MOST_KILNS];
        /** Of the last quarter: the heat ahead of it, and what came into each kiln from below. */
        final int[] was = new int[MOST_KILNS];
        final int[] came = new int[MOST_KILNS];
        int count = LEAST_KILNS;
        int out;

        Kilns() {
            for (int i = 0; i < MOST_KILNS; i++) {
                shutter[i] = FIRST_SHUTTER;
            }
        }

        boolean isThere(int kiln) {
            return kiln >= 0 && kiln < count;
        }

        void build(Reading reading) {
            count = reading.kilns;
            out = 0;
            cool();
            System.arraycopy(reading.shutter, 0, shutter, 0, MOST_KILNS);
            System.arraycopy(reading.damper, 0, damper, 0, MOST_KILNS);
        }

        void cool() {
            for (int i = 0; i < MOST_KILNS; i++) {
                heat[i] = 0;
            }
        }

        void copyFrom(Kilns other) {
            count = other.count;
            copyHeat(other);
            System.arraycopy(other.shutter, 0, shutter, 0, MOST_KILNS);
            System.arraycopy(other.damper, 0, damper, 0, MOST_KILNS);
        }

        void copyHeat(Kilns other) {
            out = other.out;
            System.arraycopy(other.heat, 0, heat, 0, MOST_KILNS);
        }

        void burn(int wood) {
            int coming = HEAT_OF_WOOD * wood;
            for (int i = 0; i < count; i++) {
                int up = heat[i] * shutter[i] / TENTHS;
                int away = heat[i] * damper[i] / TENTHS;
                was[i] = heat[i];
                came[i] = coming;
                heat[i] += coming - up - away;
                out += away;
                coming = up;
            }
            out += coming;
        }

        void burnAll(int n, int wood) {
            for (int i = 0; i < n; i++) {
                burn(wood);
            }
        }

        void blow() {
            for (int i = 0; i < count; i++) {
                heat[i] -= heat[i] / TENTHS;
            }
        }

        int jump(int kiln) {
            return Math.abs(heat[kiln] - was[kiln]);
        }

        int allHeat() {
            int all = 0;
            for (int i = 0; i < count; i++) {
                all += heat[i];
            }
            return all;
        }
    }

    /** Where the pots are and how they are. */
    private static final class Pots {
        final int[] place = new int[MOST_POTS];
        final int[] has = new int[MOST_POTS];
        final int[] how = new int[MOST_POTS];
        final Told told;

        Pots(Told told) {
            this.told = told;
        }

        void build(Reading reading) {
            for (int i = 0; i < MOST_POTS; i++) {
                place[i] = i < reading.pots ? reading.digits[i][0] : 0;
                has[i] = 0;
                how[i] = NOT_DONE;
            }
        }

        void copyFrom(Pots other) {
            System.arraycopy(other.place, 0, place, 0, MOST_POTS);
            copyHow(other);
        }

        void copyHow(Pots other) {
            System.arraycopy(other.has, 0, has, 0, MOST_POTS);
            System.arraycopy(other.how, 0, how, 0, MOST_POTS);
        }

        /** Answers the pots that are done by this quarter, as bits. */
        int feelAll(Kilns kilns) {
            int done = 0;
            for (int i = 0; i < told.count; i++) {
                if (how[i] == NOT_DONE) {
                    feel(i, kilns, isSaltBelow(place[i]));
                    done |= how[i] == NOT_DONE ? 0 : 1 << i;
                }
            }
            return done;
        }

        void feel(int pot, Kilns kilns, boolean saltBelow) {
            int kiln = place[pot];
            if (how[pot] != NOT_DONE) {
                return;
            }
            if (kilns.jump(kiln) > told.mostJump(pot)) {
                how[pot] = CRACKED;
            } else if (told.isRaw(pot) && saltBelow && kilns.came[kiln] > 0) {
                how[pot] = BLED;
            } else if (told.wants(pot, kilns.heat[kiln])) {
                has[pot]++;
                how[pot] = has[pot] >= told.time[pot] ? READY : NOT_DONE;
            }
        }

        boolean isSaltBelow(int kiln) {
            for (int i = 0; i < told.count; i++) {
                if (told.isSalt(i) && place[i] == kiln - 1) {
                    return true;
                }
            }
            return false;
        }

        int potsIn(int kiln) {
            int bits = 0;
            for (int i = 0; i < told.count; i++) {
                bits |= place[i] == kiln ? 1 << i : 0;
            }
            return bits;
        }

        int howMany(int state) {
            int many = 0;
            for (int i = 0; i < told.count; i++) {
                many += how[i] == state ? 1 : 0;
            }
            return many;
        }

        /** Whether told pots are READY or may be so: each quarter gives a pot one at most. */
        boolean canBeReady(int pots, int quartersLeft) {
            for (int i = 0; i < told.count; i++) {
                boolean isHopeful = how[i] == READY
                        || how[i] == NOT_DONE && told.time[i] - has[i] <= quartersLeft;
                if ((pots >> i & 1) == 1 && !isHopeful) {
                    return false;
                }
            }
            return true;
        }
    }

    /** Kilns and the pots in them: the one that is, one to try on, and those that are kept. */
    private static final class Tower {
        final Kilns kilns = new Kilns();
        final Pots pots;

        Tower(Told told) {
            pots = new Pots(told);
        }

        void build(Reading reading) {
            kilns.build(reading);
            pots.build(reading);
        }

        void copyFrom(Tower other) {
            kilns.copyFrom(other.kilns);
            pots.copyFrom(other.pots);
        }

        /** Where pots are, shutters and dampers stay. */
        void goBackTo(Tower other) {
            kilns.copyHeat(other.kilns);
            pots.copyHow(other.pots);
        }

        int fire(int wood) {
            kilns.burn(wood);
            return pots.feelAll(kilns);
        }

        void fireAll(int n, int wood) {
            for (int i = 0; i < n; i++) {
                fire(wood);
            }
        }
    }

    /** The quarters that were fired, each by how all was ahead of it. */
    private static final class Row {
        private final Tower[] ahead = new Tower[ROW];
        private int length;

        Row(Told told) {
            for (int i = 0; i < ROW; i++) {
                ahead[i] = new Tower(told);
            }
        }

        int length() {
            return length;
        }

        void forget() {
            length = 0;
        }

        void add(Tower now) {
            if (length >= ROW) {
                forgetFirst();
            }
            ahead[length].copyFrom(now);
            length++;
        }

        /** The first one's rows are used again at the end, so that no quarter makes new ones. */
        private void forgetFirst() {
            Tower first = ahead[0];
            for (int i = 1; i < ROW; i++) {
                ahead[i - 1] = ahead[i];
            }
            ahead[ROW - 1] = first;
            length = ROW - 1;
        }

        int takeBack(Tower now) {
            if (length > 0) {
                length--;
                now.goBackTo(ahead[length]);
            }
            return length;
        }
    }

    /** What would be behind some quarters; all of it is tried on a copy. */
    private static final class Plans {
        private final Tower now;
        private final Tower trial;

        Plans(Tower now, Tower trial) {
            this.now = now;
            this.trial = trial;
        }

        int heatBehind(int kiln, int n, int wood) {
            trial.kilns.copyFrom(now.kilns);
            trial.kilns.burnAll(n, wood);
            return trial.kilns.heat[kiln];
        }

        int howBehind(int pot, int n, int wood) {
            trial.copyFrom(now);
            trial.fireAll(n, wood);
            return trial.pots.how[pot];
        }

        int fewestTenths(int kiln, int pot, int n, int wood) {
            for (int s = 0; s <= TENTHS - now.kilns.damper[kiln]; s++) {
                trial.copyFrom(now);
                trial.kilns.shutter[kiln] = s;
                trial.fireAll(n, wood);
                if (trial.pots.how[pot] == READY) {
                    return s;
                }
            }
            return NONE;
        }

        /** Of ten to the n ways in which gales may come, those in which the pot is cracked. */
        long crackingWays(int pot, int n, int wood, int x) {
            long ways = 0;
            for (int winds = 0; winds < 1 << n; winds++) {
                int blown = Integer.bitCount(winds);
                long weight = power(x, blown) * power(TENTHS - x, n - blown);
                if (weight > 0 && isCracked(pot, n, wood, winds)) {
                    ways += weight;
                }
            }
            return ways;
        }

        private boolean isCracked(int pot, int n, int wood, int winds) {
            trial.copyFrom(now);
            boolean saltBelow = now.pots.isSaltBelow(now.pots.place[pot]);
            for (int i = 0; i < n && trial.pots.how[pot] == NOT_DONE; i++) {
                trial.kilns.burn(wood);
                if ((winds >> i & 1) == 1) {
                    trial.kilns.blow();
                }
                trial.pots.feel(pot, trial.kilns, saltBelow);
            }
            return trial.pots.how[pot] == CRACKED;
        }

        static long power(int base, int n) {
            long all = 1;
            for (int i = 0; i < n; i++) {
                all *= base;
            }
            return all;
        }
    }

    /** The least wood by which told pots are READY. */
    private static final class Woods {
        final int[] best = new int[MOST_PLANNED];
        private final Tower now;
        private final Tower[] behind = new Tower[MOST_PLANNED];
        private final int[] wood = new int[MOST_PLANNED];
        private int least;

        Woods(Tower now) {
            this.now = now;
            for (int i = 0; i < MOST_PLANNED; i++) {
                behind[i] = new Tower(now.pots.told);
            }
        }

        int search(int pots, int n) {
            int tooMuch = MOST_PLANNED * MOST_WOOD + 1;
            least = tooMuch;
            if (now.pots.canBeReady(pots, n)) {
                fireOn(pots, n, 0, 0);
            }
            return least == tooMuch ? NONE : least;
        }

        /** The woods come in the order that breaks ties: only what takes less is better. */
        private void fireOn(int pots, int n, int fired, int used) {
            if (fired >= n || fired >= MOST_PLANNED) {
                return;
            }
            for (int w = 0; w <= MOST_WOOD && used + w < least; w++) {
                behind[fired].copyFrom(fired == 0 ? now : behind[fired - 1]);
                behind[fired].fire(w);
                wood[fired] = w;
                if (behind[fired].pots.canBeReady(pots, n - fired - 1)) {
                    goOn(pots, n, fired + 1, used + w);
                }
            }
        }

        private void goOn(int pots, int n, int fired, int used) {
            if (fired < n) {
                fireOn(pots, n, fired, used);
            } else {
                least = used;
                System.arraycopy(wood, 0, best, 0, MOST_PLANNED);
            }
        }
    }

    /** The best floors for the pots that are not done. */
    private static final class Floors {
        private static final int MOST_PLACINGS = 3125;

        final int[] best = new int[MOST_POTS];
        private final Tower now;
        private final Tower trial;
        private final Told told;
        private final int[] place = new int[MOST_POTS];
        /** For each pot in which kilns it is READY: without salt below, and with it, as bits. */
        private final int[] readyPlain = new int[MOST_POTS];
        private final int[] readySalted = new int[MOST_POTS];

        Floors(Tower now, Tower trial) {
            this.now = now;
            this.trial = trial;
            told = now.pots.told;
        }

        /** Answers how many are READY; the placings come in the order that breaks ties. */
        int search(int n, int wood) {
            foresee(n, wood);
            for (int i = 0; i < told.count; i++) {
                place[i] = isFree(i) ? 0 : now.pots.place[i];
            }
            int most = -1;
            int possible = mostPossible();
            boolean isMore = true;
            for (int tried = 0; tried < MOST_PLACINGS && isMore; tried++) {
                int ready = readyHere();
                if (ready > most) {
                    most = ready;
                    System.arraycopy(place, 0, best, 0, MOST_POTS);
                }
                isMore = most < possible && nextPlacing();
            }
            return most;
        }

        private boolean isFree(int pot) {
            return now.pots.how[pot] == NOT_DONE;
        }

        /** A pot's end hangs on its kiln and on salt below alone: no other pot is asked for. */
        private void foresee(int n, int wood) {
            for (int i = 0; i < told.count; i++) {
                readyPlain[i] = 0;
                readySalted[i] = 0;
                for (int kiln = 0; kiln < now.kilns.count; kiln++) {
                    readyPlain[i] |= isReadyIn(i, kiln, false, n, wood) ? 1 << kiln : 0;
                    readySalted[i] |= isReadyIn(i, kiln, true, n, wood) ? 1 << kiln : 0;
                }
            }
        }

        private boolean isReadyIn(int pot, int kiln, boolean saltBelow, int n, int wood) {
            trial.copyFrom(now);
            trial.pots.place[pot] = kiln;
            for (int i = 0; i < n; i++) {
                trial.kilns.burn(wood);
                trial.pots.feel(pot, trial.kilns, saltBelow);
            }
            return trial.pots.how[pot] == READY;
        }

        /** How many could be READY, if none stood in another's way. */
        private int mostPossible() {
            int possible = 0;
            for (int i = 0; i < told.count; i++) {
                possible += (readyPlain[i] | readySalted[i]) != 0 ? 1 : 0;
            }
            return possible;
        }

        private int readyHere() {
            int aboveSalt = 0;
            for (int i = 0; i < told.count; i++) {
                aboveSalt |= told.isSalt(i) ? 2 << place[i] : 0;
            }
            int ready = 0;
            for (int i = 0; i < told.count; i++) {
                boolean isSalted = (aboveSalt >> place[i] & 1) == 1;
                ready += (isSalted ? readySalted[i] : readyPlain[i]) >> place[i] & 1;
            }
            return ready;
        }

        private boolean nextPlacing() {
            for (int i = told.count - 1; i >= 0; i--) {
                if (isFree(i)) {
                    if (place[i] + 1 < now.kilns.count) {
                        place[i]++;
                        return true;
                    }
                    place[i] = 0;
                }
            }
            return false;
        }
    }

    /** What cones told of kilns, from cold kilns on. */
    private static final class Cones {
        private final int[] kiln = new int[MOST_CONES];
        private final int[] span = new int[MOST_CONES];
        private final int[] wood = new int[MOST_CONES];
        private final int[] heat = new int[MOST_CONES];
        private final boolean[] isMore = new boolean[MOST_CONES];
        private final Kilns now;
        private final Kilns trial;
        private int count;

        Cones(Kilns now, Kilns trial) {
            this.now = now;
            this.trial = trial;
        }

        int count() {
            return count;
        }

        int add(int ofKiln, int n, int w, int c, boolean more) {
            if (count < MOST_CONES) {
                kiln[count] = ofKiln;
                span[count] = n;
                wood[count] = w;
                heat[count] = 10 * c;
                isMore[count] = more;
                count++;
            }
            return count;
        }

        int clear() {
            int was = count;
            count = 0;
            return was;
        }

        int trueTenths(int blamed) {
            int bits = 0;
            for (int s = 0; s <= TENTHS - now.damper[blamed]; s++) {
                bits |= areAllTrue(blamed, s) ? 1 << s : 0;
            }
            return bits;
        }

        private boolean areAllTrue(int blamed, int s) {
            for (int i = 0; i < count; i++) {
                if (!isTrue(i, blamed, s)) {
                    return false;
                }
            }
            return true;
        }

        private boolean isTrue(int cone, int blamed, int s) {
            if (!now.isThere(kiln[cone])) {
                return false;
            }
            trial.copyFrom(now);
            trial.cool();
            trial.shutter[blamed] = s;
            trial.burnAll(span[cone], wood[cone]);
            return trial.heat[kiln[cone]] >= heat[cone] == isMore[cone];
        }
    }
}
