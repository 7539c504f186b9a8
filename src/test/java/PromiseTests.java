/** For each promise of ../shared/DOC.md calls with answers worked out by hand. */
public final class PromiseTests {
    private static final int UNKNOWN = -1, BAD = -2, LATE = -3, FULL = -4, NONE = -9;
    private static int wrong = 0;
    private static int asked = 0;

    private static void due(int promise, String call, long got, long want) {
        asked++;
        if (got != want) {
            wrong++;
            System.out.println("promise " + promise + ": " + call + " answered " + got + ", due is " + want);
        }
    }

    public static void main(String[] args) {
        constants();
        newObject();
        write();
        wipe();
        fault();
        tower();
        towerKeepsAndForgets();
        about();
        kiln();
        pot();
        open();
        damp();
        put();
        quarterHeat();
        quarterCracks();
        quarterBleeds();
        quarterReady();
        quarterRow();
        undo();
        warm();
        then();
        least();
        leastAt();
        floors();
        floorAt();
        openFor();
        gales();
        cone();
        uncone();
        blame();
        owed();
        keep();
        again();
        System.out.println(wrong == 0 ? asked + " answers are as due" : wrong + " of " + asked + " answers are not as due");
        if (wrong != 0) {
            System.exit(1);
        }
    }

    private static void append(OvensAbove x, String text) {
        for (int i = 0; i < text.length(); i++) {
            x.write(1, text.charAt(i));
        }
    }

    private static void tell(OvensAbove x, String text) {
        x.wipe();
        append(x, text);
    }

    private static OvensAbove of(String text) {
        OvensAbove x = new OvensAbove();
        tell(x, text);
        due(5, "tower() of " + text, x.tower(), text.charAt(1) - '0');
        return x;
    }

    private static void constants() {
        due(0, "UNKNOWN", OvensAbove.UNKNOWN, UNKNOWN);
        due(0, "BAD", OvensAbove.BAD, BAD);
        due(0, "LATE", OvensAbove.LATE, LATE);
        due(0, "FULL", OvensAbove.FULL, FULL);
        due(0, "NONE", OvensAbove.NONE, NONE);
    }

    private static void newObject() {
        OvensAbove x = new OvensAbove();
        due(1, "about(0)", x.about(0), 2);
        for (int what = 1; what <= 9; what++) {
            due(1, "about(" + what + ")", x.about(what), 0);
        }
        for (int i = 0; i < 2; i++) {
            due(1, "heat", x.kiln(i, 0), 0);
            due(1, "shutter", x.kiln(i, 1), 5);
            due(1, "damper", x.kiln(i, 2), 0);
            due(1, "pots in it", x.kiln(i, 3), 0);
        }
        due(1, "kiln(2, 0)", x.kiln(2, 0), UNKNOWN);
        due(1, "pot(0, 0)", x.pot(0, 0), UNKNOWN);
        due(1, "fault()", x.fault(), 0);
        due(1, "undo()", x.undo(), LATE);
        due(1, "again(0)", x.again(0), LATE);
        due(1, "again(1)", x.again(1), LATE);
    }

    private static void write() {
        OvensAbove x = new OvensAbove();
        due(2, "one byte", x.write(1, 'K'), 1);
        due(2, "its lowest byte alone", x.write(1, 0x7A00L + '2'), 2);
        due(2, "fault of K2", x.fault(), NONE);
        due(2, "the highest first", x.write(4, 0x53303535L), 6);
        due(2, "fault of K2S055", x.fault(), NONE);
        x.wipe();
        due(2, "eight bytes", x.write(8, 0x4B32503030303931L), 8);
        due(2, "fault of K2P00091", x.fault(), 8);
        due(2, "the ninth", x.write(1, -256L + '9'), 9);
        due(2, "fault of K2P000919", x.fault(), NONE);
        x.wipe();
        due(2, "bytes of -1", x.write(8, -1L), 8);
        due(2, "a byte above 127 is no K", x.fault(), 0);
        due(2, "write(0)", x.write(0, 75), BAD);
        due(2, "write(9)", x.write(9, 75), BAD);
        due(2, "write(-1)", x.write(-1, 75), BAD);
        due(2, "write(MIN)", x.write(Integer.MIN_VALUE, 75), BAD);
        due(2, "write(MAX)", x.write(Integer.MAX_VALUE, 75), BAD);
        due(2, "what is refused comes not", x.about(9), 8);
        for (int i = 2; i <= 7; i++) {
            due(2, "on to " + 8 * i, x.write(8, 0), 8 * i);
        }
        due(2, "to 60", x.write(4, 0), 60);
        due(2, "five to 65", x.write(5, 0), FULL);
        due(2, "nothing came", x.about(9), 60);
        due(2, "four to 64", x.write(4, 0), 64);
        due(2, "one to 65", x.write(1, 0), FULL);
        due(2, "eight to 72", x.write(8, 0), FULL);
        due(2, "BAD ahead of FULL", x.write(9, 0), BAD);
        due(2, "BAD ahead of FULL", x.write(0, 0), BAD);
        due(2, "still 64", x.about(9), 64);
    }

    private static void wipe() {
        OvensAbove x = of("K3");
        due(3, "wipe()", x.wipe(), 2);
        due(3, "about(9)", x.about(9), 0);
        due(3, "wipe()", x.wipe(), 0);
        due(3, "fault()", x.fault(), 0);
        due(3, "the tower stays", x.about(0), 3);
        for (int i = 0; i < 8; i++) {
            x.write(8, 0);
        }
        due(3, "wipe() of 64", x.wipe(), 64);
        due(3, "room again", x.write(8, 0), 8);
    }

    private static void faultOf(String text, int want) {
        OvensAbove x = new OvensAbove();
        append(x, text);
        due(4, "fault of " + text, x.fault(), want);
        due(4, "fault of " + text + " again", x.fault(), want);
        due(5, "tower of " + text, x.tower(), want == NONE ? text.charAt(1) - '0' : LATE);
    }

    private static void fault() {
        String[] whole = {"K2", "K3", "K4", "K5", "K2S091", "K2S090", "K2S019", "K2S000", "K2S055S155",
            "K2S155S055", "K5S400", "K2P000011", "K2P139999", "K5P430019", "K2P000019S000P100019S100",
            "K2P000011P000011P000011P000011P000011S000", "K2S000S100P000011P000011P000011P000011P000011"};
        for (String text : whole) {
            faultOf(text, NONE);
        }
        String[] early = {"", "K", "K2S", "K2S0", "K2S09", "K2P", "K2P1", "K2P13", "K2P139", "K2P1399",
            "K2P13991", "K2S055S", "K2S055S1", "K2S055P", "K2P00001", "K2S055S155P", "K2S055S155P0000"};
        for (String text : early) {
            faultOf(text, text.length());
        }
        faultOf("k2", 0);
        faultOf("S", 0);
        faultOf("K1", 1);
        faultOf("K6", 1);
        faultOf("K0", 1);
        faultOf("Kx2", 1);
        faultOf("K2s", 2);
        faultOf("K22", 2);
        faultOf("K2K2", 2);
        faultOf("K2S2", 3);
        faultOf("K5S5", 3);
        faultOf("K2Sx", 3);
        faultOf("K2S0/", 4);
        faultOf("K2S0:", 4);
        faultOf("K2S092", 5);
        faultOf("K2S029", 5);
        faultOf("K2S05x", 5);
        faultOf("K2S055S055", 7);
        faultOf("K3S055S155S1", 11);
        faultOf("K2S055S155S", 10);
        faultOf("K2S055S155S0", 10);
        faultOf("K2S055S1550", 10);
        faultOf("K2P2", 3);
        faultOf("K2P04", 4);
        faultOf("K2P00x", 5);
        faultOf("K2P0054", 6);
        faultOf("K2P00550", 7);
        faultOf("K2P005510", 8);
        faultOf("K2P005511x", 9);
        String five = "K2P000011P000011P000011P000011P000011";
        faultOf(five + "P", 37);
        faultOf(five + "S", 38);
        faultOf(five + "S000S100S", 45);
        faultOf(five + "S000S100P", 45);
        faultOf("\u00CB2", 0);
        faultOf("K\u00B2", 1);
        faultOf("K2\u0000", 2);
        String most = "K5S000S100S200S300S400P000011P000011P000011P000011P000011";
        faultOf(most, NONE);
        faultOf(most + "S055P00", 57);
    }

    private static void tower() {
        OvensAbove x = of("K3S143P203829P112515");
        due(5, "about(0)", x.about(0), 3);
        due(5, "about(1)", x.about(1), 2);
        due(5, "a shutter not told", x.kiln(0, 1), 5);
        due(5, "a damper not told", x.kiln(0, 2), 0);
        due(5, "a told shutter", x.kiln(1, 1), 4);
        due(5, "a told damper", x.kiln(1, 2), 3);
        due(5, "the text stays", x.about(9), 20);
        x.open(0, 9);
        x.damp(1, 6);
        x.put(0, 1);
        due(5, "the same anew", x.tower(), 3);
        due(5, "shutter as at first", x.kiln(0, 1), 5);
        due(5, "damper as told", x.kiln(1, 2), 3);
        due(5, "pot as told", x.pot(0, 0), 2);
        append(x, "S");
        due(5, "a fault", x.tower(), LATE);
        due(5, "it changed nothing", x.about(0), 3);
        tell(x, "K2");
        due(5, "no pots any more", x.tower(), 2);
        due(5, "about(1)", x.about(1), 0);
        due(5, "pot(0, 0)", x.pot(0, 0), UNKNOWN);
        due(5, "shutter as at first", x.kiln(1, 1), 5);
        due(5, "damper as at first", x.kiln(1, 2), 0);
    }

    private static void towerKeepsAndForgets() {
        OvensAbove x = of("K2P000919");
        x.cone(0, 1, 5, 10, true);
        x.quarter(4);
        x.quarter(4);
        x.quarter(4);
        due(5, "out ahead", x.about(4), 20);
        due(5, "heat ahead", x.about(3), 220);
        x.keep(0);
        x.keep(1);
        x.write(1, 'x');
        due(5, "a fault", x.tower(), LATE);
        due(5, "heat stays", x.about(3), 220);
        due(5, "row stays", x.about(2), 3);
        due(5, "kept stays", x.again(0), 220);
        x.quarter(0);
        tell(x, "K2P000919");
        due(5, "tower()", x.tower(), 2);
        due(5, "cold", x.about(3), 0);
        due(5, "cold 0", x.kiln(0, 0), 0);
        due(5, "cold 1", x.kiln(1, 0), 0);
        due(5, "no quarters", x.about(2), 0);
        due(5, "nothing to undo", x.undo(), LATE);
        due(5, "nothing out", x.about(4), 0);
        due(5, "pot anew", x.pot(0, 7), 0);
        due(5, "pot has none", x.pot(0, 6), 0);
        due(5, "cones stay", x.about(8), 1);
        due(5, "what was kept is gone", x.again(0), LATE);
        due(5, "what was kept is gone", x.again(1), LATE);
    }

    private static void about() {
        OvensAbove x = of("K4P000919P010121P120999P300995P120999");
        x.quarter(1);
        x.quarter(1);
        x.cone(0, 1, 1, 1, true);
        x.cone(0, 1, 1, 1, true);
        due(6, "kilns", x.about(0), 4);
        due(6, "pots", x.about(1), 5);
        due(6, "quarters", x.about(2), 2);
        due(6, "heat", x.about(3), 40);
        due(6, "out", x.about(4), 0);
        due(6, "READY", x.about(5), 1);
        due(6, "CRACKED", x.about(6), 1);
        due(6, "BLED", x.about(7), 2);
        due(6, "cones", x.about(8), 2);
        due(6, "bytes", x.about(9), 37);
        due(6, "about(-1)", x.about(-1), BAD);
        due(6, "about(10)", x.about(10), BAD);
        due(6, "about(MIN)", x.about(Integer.MIN_VALUE), BAD);
        due(6, "about(MAX)", x.about(Integer.MAX_VALUE), BAD);
        x.damp(0, 5);
        x.quarter(0);
        due(6, "a damper's heat is out", x.about(4), 15);
        due(6, "heat", x.about(3), 25);
    }

    private static void kiln() {
        OvensAbove x = of("K5S491S218P400011P200011P400011");
        x.quarter(7);
        x.quarter(0);
        due(7, "heat 0", x.kiln(0, 0), 70);
        due(7, "heat 1", x.kiln(1, 0), 70);
        due(7, "heat 2", x.kiln(2, 0), 0);
        due(7, "shutter 4", x.kiln(4, 1), 9);
        due(7, "damper 4", x.kiln(4, 2), 1);
        due(7, "shutter 2", x.kiln(2, 1), 1);
        due(7, "damper 2", x.kiln(2, 2), 8);
        due(7, "pots 4, a done one too", x.kiln(4, 3), 5);
        due(7, "pots 2", x.kiln(2, 3), 2);
        due(7, "pots 0", x.kiln(0, 3), 0);
        due(7, "kiln(5, 0)", x.kiln(5, 0), UNKNOWN);
        due(7, "kiln(-1, 0)", x.kiln(-1, 0), UNKNOWN);
        due(7, "UNKNOWN ahead of BAD", x.kiln(5, 9), UNKNOWN);
        due(7, "kiln(4, 4)", x.kiln(4, 4), BAD);
        due(7, "kiln(0, -1)", x.kiln(0, -1), BAD);
        due(7, "kiln(MAX)", x.kiln(Integer.MAX_VALUE, 0), UNKNOWN);
        due(7, "kiln(MIN)", x.kiln(Integer.MIN_VALUE, 0), UNKNOWN);
    }

    private static void pot() {
        OvensAbove x = of("K3P212946P030123");
        int[] first = {2, 1, 2, 9, 4, 6, 0, 0};
        int[] second = {0, 3, 0, 1, 2, 3, 0, 0};
        for (int what = 0; what <= 7; what++) {
            due(8, "pot(0, " + what + ")", x.pot(0, what), first[what]);
            due(8, "pot(1, " + what + ")", x.pot(1, what), second[what]);
        }
        x.put(0, 1);
        x.quarter(0);
        due(8, "its kiln", x.pot(0, 0), 1);
        due(8, "its quarters", x.pot(1, 6), 1);
        x.quarter(0);
        due(8, "its quarters", x.pot(1, 6), 2);
        due(8, "READY", x.pot(1, 7), 1);
        due(8, "pot(2, 0)", x.pot(2, 0), UNKNOWN);
        due(8, "pot(-1, 0)", x.pot(-1, 0), UNKNOWN);
        due(8, "UNKNOWN ahead of BAD", x.pot(2, 8), UNKNOWN);
        due(8, "pot(0, 8)", x.pot(0, 8), BAD);
        due(8, "pot(0, -1)", x.pot(0, -1), BAD);
        due(8, "pot(MAX)", x.pot(Integer.MAX_VALUE, 0), UNKNOWN);
        due(8, "pot(MIN)", x.pot(Integer.MIN_VALUE, 0), UNKNOWN);
    }

    private static void open() {
        OvensAbove x = of("K2S033");
        due(9, "to 7, its most", x.open(0, 7), 3);
        due(9, "8 is too much", x.open(0, 8), BAD);
        due(9, "-1", x.open(0, -1), BAD);
        due(9, "MIN", x.open(0, Integer.MIN_VALUE), BAD);
        due(9, "MAX", x.open(0, Integer.MAX_VALUE), BAD);
        due(9, "refused: nothing changed", x.kiln(0, 1), 7);
        due(9, "to 0", x.open(0, 0), 7);
        due(9, "to 0 again", x.open(0, 0), 0);
        due(9, "to 10 with no damper", x.open(1, 10), 5);
        due(9, "as it is now", x.kiln(1, 1), 10);
        due(9, "11", x.open(1, 11), BAD);
        due(9, "open(2, 0)", x.open(2, 0), UNKNOWN);
        due(9, "open(-1, 0)", x.open(-1, 0), UNKNOWN);
        due(9, "UNKNOWN ahead of BAD", x.open(2, 11), UNKNOWN);
    }

    private static void damp() {
        OvensAbove x = of("K2S033");
        due(10, "to 7, its most", x.damp(0, 7), 3);
        due(10, "8 is too much", x.damp(0, 8), BAD);
        due(10, "-1", x.damp(0, -1), BAD);
        due(10, "MIN", x.damp(0, Integer.MIN_VALUE), BAD);
        due(10, "MAX", x.damp(0, Integer.MAX_VALUE), BAD);
        due(10, "refused: nothing changed", x.kiln(0, 2), 7);
        due(10, "to 0", x.damp(0, 0), 7);
        x.open(1, 0);
        due(10, "to 10 with the shutter shut", x.damp(1, 10), 0);
        due(10, "as it is now", x.kiln(1, 2), 10);
        due(10, "11", x.damp(1, 11), BAD);
        due(10, "the shutter has no room", x.open(1, 1), BAD);
        due(10, "damp(2, 0)", x.damp(2, 0), UNKNOWN);
        due(10, "damp(-1, 0)", x.damp(-1, 0), UNKNOWN);
        due(10, "UNKNOWN ahead of BAD", x.damp(2, 11), UNKNOWN);
    }

    private static void put() {
        OvensAbove x = of("K3P000019P100919");
        due(11, "up", x.put(0, 2), 0);
        due(11, "where it is", x.pot(0, 0), 2);
        due(11, "to where it is", x.put(0, 2), 2);
        due(11, "pots in 2", x.kiln(2, 3), 1);
        due(11, "pots in 0", x.kiln(0, 3), 0);
        due(11, "no such pot", x.put(2, 0), UNKNOWN);
        due(11, "no such pot", x.put(-1, 0), UNKNOWN);
        due(11, "no such kiln", x.put(0, 3), UNKNOWN);
        due(11, "no such kiln", x.put(0, -1), UNKNOWN);
        due(11, "both are done", x.quarter(0), 3);
        due(11, "a done one", x.put(0, 1), LATE);
        due(11, "UNKNOWN ahead of LATE", x.put(0, 3), UNKNOWN);
        due(11, "it stays", x.pot(0, 0), 2);
        x.undo();
        due(11, "not done any more", x.put(0, 1), 2);
    }

    private static void quarterHeat() {
        OvensAbove x = new OvensAbove();
        due(12, "quarter(5)", x.quarter(5), 0);
        heats(x, 100, 0, 0);
        x.quarter(0);
        heats(x, 50, 50, 0);
        x.quarter(3);
        heats(x, 85, 50, 25);
        x.quarter(9);
        heats(x, 223, 67, 50);
        due(12, "quarter(-1)", x.quarter(-1), BAD);
        due(12, "quarter(10)", x.quarter(10), BAD);
        due(12, "quarter(MIN)", x.quarter(Integer.MIN_VALUE), BAD);
        due(12, "quarter(MAX)", x.quarter(Integer.MAX_VALUE), BAD);
        heats(x, 223, 67, 50);
        due(12, "refused ones are in no row", x.about(2), 4);
        x = of("K2S033S133");
        x.quarter(1);
        x.quarter(0);
        heats(x, 8, 6, 6);
        x.quarter(0);
        heats(x, 4, 6, 10);
        x = of("K2S037S119");
        x.quarter(5);
        x.quarter(0);
        heats(x, 0, 30, 70);
        x.quarter(0);
        heats(x, 0, 0, 100);
        x = of("K5");
        x.open(0, 10);
        x.quarter(9);
        x.quarter(0);
        x.quarter(0);
        x.quarter(0);
        x.quarter(0);
        due(12, "the top", x.kiln(4, 0), 22);
        due(12, "below it", x.kiln(3, 0), 68);
        x.quarter(0);
        due(12, "out of the top", x.about(4), 11);
    }

    private static void heats(OvensAbove x, int first, int second, int out) {
        due(12, "heat of 0", x.kiln(0, 0), first);
        due(12, "heat of 1", x.kiln(1, 0), second);
        due(12, "out", x.about(4), out);
    }

    private static void quarterCracks() {
        OvensAbove x = of("K2P000994P000993P030992P030991P100991");
        due(12, "a jump of 40", x.quarter(2), 10);
        due(12, "bears 40", x.pot(0, 7), 0);
        due(12, "bears 30", x.pot(1, 7), 2);
        due(12, "THICK bears 40", x.pot(2, 7), 0);
        due(12, "THICK bears 20", x.pot(3, 7), 2);
        due(12, "no jump above", x.pot(4, 7), 0);
        due(12, "a cracked one has none", x.pot(1, 6), 0);
        x = of("K2S000P000997P000998");
        x.quarter(2);
        x.quarter(2);
        x.open(0, 10);
        due(12, "80 less", x.quarter(0), 1);
        due(12, "bears 70", x.pot(0, 7), 2);
        due(12, "bears 80", x.pot(1, 7), 0);
        due(12, "done ones change no more", x.quarter(9), 2);
        x = of("K2P000995");
        x.quarter(4);
        due(12, "cracked: 80 is more than 50", x.pot(0, 7), 2);
        x = of("K2P100995");
        x.quarter(6);
        x.put(0, 0);
        due(12, "a put is no jump: 120 to 160", x.quarter(5), 0);
        due(12, "it stands", x.pot(0, 7), 0);
        due(12, "160 to 0", quarterOpen(x), 1);
    }

    private static int quarterOpen(OvensAbove x) {
        x.open(0, 10);
        return x.quarter(0);
    }

    private static void quarterBleeds() {
        OvensAbove x = of("K3P010919P120999P100999P020999P220999");
        due(12, "salt is READY, no heat went up yet", x.quarter(1), 1);
        due(12, "raw has one", x.pot(1, 6), 1);
        due(12, "a done salt pot bleeds on it", x.quarter(0), 2);
        due(12, "BLED", x.pot(1, 7), 3);
        due(12, "BLED has no more", x.pot(1, 6), 1);
        due(12, "plain stands", x.pot(2, 7), 0);
        due(12, "raw with the salt stands", x.pot(3, 7), 0);
        due(12, "raw two above stands", x.pot(4, 7), 0);
        x = of("K2P010111P120991");
        due(12, "salt cracks", x.quarter(2), 1);
        due(12, "cracked goes ahead of bled", x.quarter(0), 2);
        due(12, "CRACKED", x.pot(1, 7), 2);
        x = of("K2P010111P120999");
        x.quarter(2);
        due(12, "a cracked salt pot bleeds too", x.quarter(0), 2);
        due(12, "BLED", x.pot(1, 7), 3);
        x = of("K2S010P010999P120999");
        x.quarter(1);
        x.open(0, 0);
        due(12, "nothing goes up", x.quarter(0), 0);
        due(12, "raw stands", x.pot(1, 7), 0);
        x.open(0, 1);
        due(12, "2 go up", x.quarter(0), 2);
        x = of("K2S000P010999P120919");
        x.damp(0, 10);
        x.quarter(4);
        due(12, "by the damper nothing goes up", x.quarter(0), 0);
        due(12, "raw is READY", x.pot(1, 7), 1);
        x = of("K2S009P010999P120999");
        x.quarter(1);
        x.quarter(0);
        x.damp(0, 0);
        x.open(0, 4);
        due(12, "2 by 4 tenths is cut to none", x.quarter(0), 0);
        due(12, "raw stands", x.pot(1, 7), 0);
        x = of("K2P020999P110999");
        x.quarter(1);
        due(12, "salt above bleeds not", x.quarter(1), 0);
        x = of("K2P000999P120999");
        x.quarter(1);
        due(12, "plain below bleeds not", x.quarter(1), 0);
    }

    private static void quarterReady() {
        OvensAbove x = of("K2S000P002529P003529P002419P002519");
        due(12, "20 is 10 l of two of t 1", x.quarter(1), 12);
        due(12, "20 is in 20 .. 50", x.pot(0, 6), 1);
        due(12, "20 is not in 30 .. 50", x.pot(1, 6), 0);
        x.quarter(2);
        due(12, "60 is more than 50", x.pot(0, 6), 1);
        x.damp(0, 2);
        due(12, "48 is in both", x.quarter(0), 1);
        due(12, "READY, not one behind another", x.pot(0, 7), 1);
        due(12, "its quarters", x.pot(0, 6), 2);
        due(12, "one of two", x.pot(1, 6), 1);
        x.damp(0, 0);
        due(12, "48 again", x.quarter(0), 2);
        due(12, "READY", x.pot(1, 7), 1);
        due(12, "no more than t", x.pot(0, 6), 2);
        x = of("K2S000P000259");
        x.quarter(1);
        due(12, "20 is 10 h", x.pot(0, 6), 1);
        x.damp(0, 9);
        x.quarter(1);
        due(12, "22 is more", x.pot(0, 6), 1);
    }

    private static void quarterRow() {
        OvensAbove x = of("K2S000P000999");
        for (int i = 1; i <= 12; i++) {
            x.quarter(0);
            due(12, "the row", x.about(2), i);
        }
        x.quarter(1);
        due(12, "the row is full", x.about(2), 12);
        x.quarter(1);
        due(12, "the row is full", x.about(2), 12);
        for (int i = 11; i >= 0; i--) {
            due(13, "undo()", x.undo(), i);
            due(13, "heat", x.kiln(0, 0), i == 11 ? 20 : 0);
        }
        due(13, "the first two are forgotten", x.undo(), LATE);
        due(13, "they stay", x.pot(0, 6), 2);
    }

    private static void undo() {
        OvensAbove x = of("K3S045P000929P000919P100999");
        x.quarter(4);
        due(13, "READY", x.pot(1, 7), 1);
        x.quarter(1);
        due(13, "heat", x.kiln(0, 0), 28);
        due(13, "heat above", x.kiln(1, 0), 32);
        due(13, "out", x.about(4), 40);
        due(13, "READY", x.pot(0, 7), 1);
        x.open(0, 1);
        x.damp(0, 2);
        x.put(2, 2);
        due(13, "undo()", x.undo(), 1);
        due(13, "heat as it was", x.kiln(0, 0), 80);
        due(13, "heat above as it was", x.kiln(1, 0), 0);
        due(13, "out as it was", x.about(4), 0);
        due(13, "not done", x.pot(0, 7), 0);
        due(13, "one quarter", x.pot(0, 6), 1);
        due(13, "still READY", x.pot(1, 7), 1);
        due(13, "where it is stays", x.pot(2, 0), 2);
        due(13, "its quarters", x.pot(2, 6), 1);
        due(13, "shutter stays", x.kiln(0, 1), 1);
        due(13, "damper stays", x.kiln(0, 2), 2);
        due(13, "undo()", x.undo(), 0);
        due(13, "cold", x.about(3), 0);
        due(13, "not done", x.pot(1, 7), 0);
        due(13, "none", x.pot(1, 6), 0);
        due(13, "undo()", x.undo(), LATE);
        due(13, "row", x.about(2), 0);
        x.quarter(1);
        due(13, "a new one", x.about(2), 1);
    }

    private static void warm() {
        OvensAbove x = of("K3P000919");
        x.quarter(5);
        due(14, "warm(0, 1, 0)", x.warm(0, 1, 0), 50);
        due(14, "warm(1, 1, 0)", x.warm(1, 1, 0), 50);
        due(14, "warm(2, 1, 0)", x.warm(2, 1, 0), 0);
        due(14, "warm(2, 2, 0)", x.warm(2, 2, 0), 25);
        due(14, "warm(0, 2, 9)", x.warm(0, 2, 9), 295);
        due(14, "warm(0, 9, 0)", x.warm(0, 9, 0), 1);
        due(14, "nothing is changed", x.kiln(0, 0), 100);
        due(14, "no row", x.about(2), 1);
        due(14, "no pot", x.pot(0, 6), 0);
        due(14, "nothing out", x.about(4), 0);
        due(14, "warm(3, ..)", x.warm(3, 1, 1), UNKNOWN);
        due(14, "warm(-1, ..)", x.warm(-1, 1, 1), UNKNOWN);
        due(14, "UNKNOWN ahead of BAD", x.warm(3, 0, 10), UNKNOWN);
        due(14, "n 0", x.warm(0, 0, 1), BAD);
        due(14, "n 10", x.warm(0, 10, 1), BAD);
        due(14, "n MIN", x.warm(0, Integer.MIN_VALUE, 1), BAD);
        due(14, "w 10", x.warm(0, 1, 10), BAD);
        due(14, "w -1", x.warm(0, 1, -1), BAD);
    }

    private static void then() {
        OvensAbove x = of("K2S000P002449P010999P120999P000991");
        x.open(0, 5);
        due(15, "20, 30, 35: three", x.then(0, 3, 1), 0);
        due(15, "20, 30, 35, 38: four", x.then(0, 4, 1), 1);
        due(15, "it stays so", x.then(0, 9, 1), 1);
        due(15, "no heat yet", x.then(2, 1, 1), 0);
        due(15, "bled on", x.then(2, 2, 1), 3);
        due(15, "20 is more than 10", x.then(3, 1, 1), 2);
        due(15, "no wood", x.then(3, 9, 0), 1);
        due(15, "nothing is changed", x.pot(3, 7), 0);
        due(15, "nothing is changed", x.about(3), 0);
        due(15, "no row", x.about(2), 0);
        due(15, "then(4, ..)", x.then(4, 1, 1), UNKNOWN);
        due(15, "then(-1, ..)", x.then(-1, 1, 1), UNKNOWN);
        due(15, "UNKNOWN ahead of BAD", x.then(4, 0, 10), UNKNOWN);
        due(15, "n 0", x.then(0, 0, 1), BAD);
        due(15, "n 10", x.then(0, 10, 1), BAD);
        due(15, "w 10", x.then(0, 1, 10), BAD);
        due(15, "w -1", x.then(0, 1, -1), BAD);
    }

    private static void least() {
        OvensAbove x = of("K2S000P004519P006819P004539");
        due(16, "none told", x.least(0, 3), 0);
        due(16, "40 in one", x.least(1, 1), 2);
        due(16, "60 in one", x.least(2, 1), 3);
        due(16, "both in one", x.least(3, 1), NONE);
        due(16, "both in two: 40, 60", x.least(3, 2), 3);
        due(16, "both in three", x.least(3, 3), 3);
        due(16, "three at 40 in two", x.least(4, 2), NONE);
        due(16, "three at 40 in three", x.least(4, 3), 2);
        due(16, "nothing is changed", x.about(3), 0);
        due(16, "nothing is changed", x.pot(0, 7), 0);
        due(16, "all bits", x.least(7, 3), NONE);
        due(16, "a bit too many", x.least(8, 1), BAD);
        due(16, "-1", x.least(-1, 1), BAD);
        due(16, "MIN", x.least(Integer.MIN_VALUE, 1), BAD);
        due(16, "n 0", x.least(1, 0), BAD);
        due(16, "n 4", x.least(1, 4), BAD);
        x.quarter(2);
        due(16, "a READY one wants no wood", x.least(1, 1), 0);
        due(16, "the other", x.least(3, 1), 1);
        x = of("K2P000191");
        x.quarter(9);
        due(16, "a CRACKED one can not be", x.least(1, 3), NONE);
        x = of("K2P010919P120119");
        x.quarter(1);
        due(16, "READY ones alone", x.least(3, 1), 0);
        x = new OvensAbove();
        due(16, "no pots", x.least(0, 1), 0);
        due(16, "no pots", x.least(1, 1), BAD);
        x = of("K2S000P009919");
        due(16, "all of the wood is too much", x.least(1, 1), NONE);
        due(16, "90 is none by 20", x.least(1, 2), NONE);
    }

    private static void leastAt() {
        OvensAbove x = of("K2S000P004519P006819P004539");
        due(17, "of like ones the first: 0, 2", x.leastAt(1, 2, 0), 0);
        due(17, "of like ones the first: 0, 2", x.leastAt(1, 2, 1), 2);
        due(17, "40 at once", x.leastAt(4, 3, 0), 2);
        due(17, "then none", x.leastAt(4, 3, 1), 0);
        due(17, "then none", x.leastAt(4, 3, 2), 0);
        due(17, "0, 2, 1", x.leastAt(3, 3, 0), 0);
        due(17, "0, 2, 1", x.leastAt(3, 3, 1), 2);
        due(17, "0, 2, 1", x.leastAt(3, 3, 2), 1);
        due(17, "no such quarter", x.leastAt(3, 3, 3), NONE);
        due(17, "no such quarter", x.leastAt(3, 2, 2), NONE);
        due(17, "no such quarter", x.leastAt(3, 3, -1), NONE);
        due(17, "no such quarter", x.leastAt(3, 3, Integer.MAX_VALUE), NONE);
        due(17, "it can not be", x.leastAt(3, 1, 0), NONE);
        due(17, "a bit too many", x.leastAt(8, 1, 0), BAD);
        due(17, "-1", x.leastAt(-1, 1, 0), BAD);
        due(17, "n 0", x.leastAt(1, 0, 0), BAD);
        due(17, "n 4", x.leastAt(1, 4, 0), BAD);
        due(17, "BAD ahead of NONE", x.leastAt(8, 3, 7), BAD);
        x.quarter(0);
        x.quarter(2);
        due(17, "60 by 1", x.leastAt(2, 1, 0), 1);
    }

    private static void floors() {
        // With shutters half open and 2 wood each: kiln 0 is 40, 60, 70; kiln 1 0, 20, 40.
        OvensAbove x = of("K2P104439P004419P001419P001429");
        due(18, "40 for one", x.floors(1, 2), 2);
        due(18, "nothing is changed", x.pot(0, 0), 1);
        due(18, "two", x.floors(2, 2), 2);
        due(18, "three", x.floors(3, 2), 3);
        due(18, "n 0", x.floors(0, 1), BAD);
        due(18, "n 10", x.floors(10, 1), BAD);
        due(18, "w -1", x.floors(1, -1), BAD);
        due(18, "w 10", x.floors(1, 10), BAD);
        due(18, "no pots", new OvensAbove().floors(9, 9), 0);
        x.quarter(2);
        due(18, "READY ones are told too", x.about(5), 2);
        due(18, "and one more, put up to 20", x.floors(1, 2), 3);
        // Salt and raw: raw may not be above salt when heat goes up.
        x = of("K2P014619P120119");
        due(18, "both: raw is READY ahead of what goes up", x.floors(3, 2), 2);
        // Salt is READY below alone, raw above alone, where it is bled on; in three salt may be above.
        x = of("K2P014619P122319");
        due(18, "one of them", x.floors(2, 2), 1);
        due(19, "the first by pot 0", x.floorAt(0, 2, 2), 0);
        due(19, "the first by pot 1", x.floorAt(1, 2, 2), 0);
        due(18, "both above", x.floors(3, 2), 2);
        due(19, "salt above", x.floorAt(0, 3, 2), 1);
        due(19, "raw above", x.floorAt(1, 3, 2), 1);
        // The same with raw first: where salt is below, raw is told to be where it is not bled on.
        x = of("K2P022319P114619");
        due(18, "one of them", x.floors(2, 2), 1);
        due(19, "raw below", x.floorAt(0, 2, 2), 0);
        due(19, "salt below", x.floorAt(1, 2, 2), 0);
        x = of("K2P010919P120999");
        due(18, "one", x.floors(5, 1), 1);
    }

    private static void floorAt() {
        OvensAbove x = of("K2P104439P004419P001419P001429");
        due(19, "none is READY: the lowest", x.floorAt(0, 3, 2), 0);
        due(19, "40 at once", x.floorAt(1, 3, 2), 0);
        due(19, "40 at once", x.floorAt(2, 3, 2), 0);
        due(19, "two of 10 .. 40", x.floorAt(3, 3, 2), 1);
        due(19, "not in two", x.floorAt(3, 2, 2), 0);
        due(19, "nothing is changed", x.pot(0, 0), 1);
        due(19, "nothing is changed", x.pot(3, 0), 0);
        due(19, "no such pot", x.floorAt(4, 1, 1), UNKNOWN);
        due(19, "no such pot", x.floorAt(-1, 1, 1), UNKNOWN);
        due(19, "UNKNOWN ahead of BAD", x.floorAt(4, 0, 10), UNKNOWN);
        due(19, "n 0", x.floorAt(0, 0, 1), BAD);
        due(19, "n 10", x.floorAt(0, 10, 1), BAD);
        due(19, "w 10", x.floorAt(0, 1, 10), BAD);
        due(19, "w -1", x.floorAt(0, 1, -1), BAD);
        // A READY pot stays where it is, even where the lowest kiln would do.
        x = of("K3P200919P200929");
        x.quarter(0);
        due(19, "a done one stays", x.floorAt(0, 1, 0), 2);
        due(19, "one that is not done goes down", x.floorAt(1, 1, 0), 0);
        // Raw that wants the upper kiln and salt that wants the lower one: one of them.
        x = of("K2P020149P014619");
        due(19, "raw above would be bled on", x.floors(4, 2), 1);
        due(19, "raw below, as it is the first", x.floorAt(0, 4, 2), 0);
        due(19, "salt below", x.floorAt(1, 4, 2), 0);
    }

    private static void openFor() {
        // 5 wood each: kiln 0 is 100, then 200 less what went up; kiln 1 has what went up.
        OvensAbove x = of("K2S012P103919P109919P005919P000111");
        due(20, "30 of 100", x.openFor(0, 0, 2, 5), 3);
        due(20, "a damper takes two: 90 is too much", x.openFor(0, 1, 2, 5), NONE);
        due(20, "no quarter more than one: it is not there", x.openFor(0, 0, 1, 5), NONE);
        due(20, "any", x.openFor(1, 0, 2, 5), NONE);
        due(20, "nothing is changed", x.kiln(0, 1), 1);
        due(20, "nothing is changed", x.about(3), 0);
        x.damp(0, 0);
        due(20, "90 of 100", x.openFor(0, 1, 2, 5), 9);
        due(20, "none is enough", x.openFor(0, 2, 1, 3), 0);
        due(20, "cracked by 20", x.openFor(0, 3, 1, 1), NONE);
        x.open(0, 10);
        x.damp(1, 3);
        due(20, "all ten are asked for", x.openFor(1, 0, 2, 2), 0);
        x = of("K2P109911");
        x.open(1, 2);
        x.damp(1, 8);
        due(20, "bears 10 alone", x.openFor(0, 0, 2, 9), NONE);
        x = of("K3P200119");
        due(20, "READY at 0", x.openFor(2, 0, 1, 9), 0);
        x = of("K2P101119");
        x.open(0, 0);
        due(20, "10 of 10", x.openFor(0, 0, 2, 1), 5);
        x.quarter(0);
        due(20, "no such kiln", x.openFor(2, 0, 1, 1), UNKNOWN);
        due(20, "no such kiln", x.openFor(-1, 0, 1, 1), UNKNOWN);
        due(20, "no such pot", x.openFor(0, 1, 1, 1), UNKNOWN);
        due(20, "no such pot", x.openFor(0, -1, 1, 1), UNKNOWN);
        due(20, "UNKNOWN ahead of BAD", x.openFor(0, 1, 0, 10), UNKNOWN);
        due(20, "n 0", x.openFor(0, 0, 0, 1), BAD);
        due(20, "n 10", x.openFor(0, 0, 10, 1), BAD);
        due(20, "w 10", x.openFor(0, 0, 1, 10), BAD);
        due(20, "w -1", x.openFor(0, 0, 1, -1), BAD);
        // A shutter with no damper may be open ten tenths.
        x = of("K2P109919");
        due(20, "90 of 90", x.openFor(0, 0, 3, 4), NONE);
        x = of("K2P108819");
        due(20, "80 of 80 wants all ten", x.openFor(0, 0, 2, 4), 10);
        x.open(0, 0);
        x.damp(0, 1);
        due(20, "nine are not enough", x.openFor(0, 0, 2, 4), NONE);
    }

    private static void galesAre(OvensAbove x, int pot, int n, int w, int tenths, long upper, long lower) {
        String call = "gales(" + pot + ", " + n + ", " + w + ", " + tenths + ")";
        due(21, call, x.gales(pot, n, w, tenths, true), upper);
        due(21, call, x.gales(pot, n, w, tenths, false), lower);
    }

    private static void gales() {
        // 100 cracks it, 90 (a gale takes 10) does not; then a gale's 190 to 171 is no less a jump.
        OvensAbove x = of("K2S000P000999");
        galesAre(x, 0, 1, 5, 0, 1, 1);
        galesAre(x, 0, 1, 5, 10, 0, 1);
        galesAre(x, 0, 1, 5, 3, 7, 10);
        galesAre(x, 0, 1, 5, 5, 1, 2);
        // With a first gale 90, then 190 (a jump of 100) or 171 (of 81).
        galesAre(x, 0, 2, 5, 5, 3, 4);
        galesAre(x, 0, 2, 5, 3, 91, 100);
        galesAre(x, 0, 2, 5, 1, 99, 100);
        galesAre(x, 0, 1, 4, 5, 0, 1);
        // 80, then still: 80 to 72 and on; it is not cracked by gales alone.
        x.quarter(4);
        galesAre(x, 0, 8, 0, 5, 0, 1);
        due(21, "nothing is changed", x.kiln(0, 0), 80);
        due(21, "nothing is changed", x.pot(0, 6), 1);
        due(21, "no row", x.about(2), 1);
        // 160 borne by a THICK pot; a gale takes 16 of 160, it bears 20, of 320 32.
        x = of("K2S000P030991P009991");
        x.damp(0, 1);
        galesAre(x, 0, 1, 1, 10, 0, 1);
        galesAre(x, 0, 1, 2, 5, 1, 1);
        // A gale takes 2 of 20: 18 is cracking for one that bears 10, too.
        galesAre(x, 1, 1, 1, 10, 1, 1);
        x = of("K2S000P009991P000991P000199");
        x.open(0, 0);
        galesAre(x, 0, 8, 0, 5, 0, 1);
        due(21, "a CRACKED one", x.quarter(1), 3);
        galesAre(x, 0, 3, 0, 4, 1, 1);
        due(21, "no such pot", x.gales(3, 1, 1, 1, true), UNKNOWN);
        due(21, "no such pot", x.gales(-1, 1, 1, 1, false), UNKNOWN);
        due(21, "UNKNOWN ahead of BAD", x.gales(3, 0, 1, 1, true), UNKNOWN);
        due(21, "n 0", x.gales(0, 0, 1, 1, true), BAD);
        due(21, "n 9", x.gales(0, 9, 1, 1, true), BAD);
        due(21, "w 10", x.gales(0, 1, 10, 1, true), BAD);
        due(21, "w -1", x.gales(0, 1, -1, 1, true), BAD);
        due(21, "x 11", x.gales(0, 1, 1, 11, true), BAD);
        due(21, "x -1", x.gales(0, 1, 1, -1, false), BAD);
        // A pot that is READY by a still quarter is not cracked behind it.
        x = of("K2S000P004416");
        x.quarter(3);
        x.quarter(2);
        x.open(0, 10);
        // From 100 to 40: READY; with a gale to 36: cracked.
        galesAre(x, 0, 1, 2, 5, 1, 2);
        galesAre(x, 0, 8, 2, 5, 1, 2);
        galesAre(x, 0, 8, 2, 1, 1, 10);
        galesAre(x, 0, 8, 2, 0, 0, 1);
    }

    private static void cone() {
        OvensAbove x = of("K3");
        for (int i = 1; i <= 8; i++) {
            due(22, "cone", x.cone(2, 9, 9, i == 8 ? 0 : 99, i == 8), i);
        }
        due(22, "a ninth", x.cone(0, 1, 1, 1, true), FULL);
        due(22, "eight", x.about(8), 8);
        due(22, "UNKNOWN ahead of FULL", x.cone(3, 1, 1, 1, true), UNKNOWN);
        due(22, "BAD ahead of FULL", x.cone(0, 0, 1, 1, true), BAD);
        x.uncone();
        due(22, "n 1, w 0, c 0", x.cone(0, 1, 0, 0, true), 1);
        due(22, "no such kiln", x.cone(3, 1, 1, 1, true), UNKNOWN);
        due(22, "no such kiln", x.cone(-1, 1, 1, 1, true), UNKNOWN);
        due(22, "UNKNOWN ahead of BAD", x.cone(3, 0, 1, 1, true), UNKNOWN);
        due(22, "n 0", x.cone(0, 0, 1, 1, true), BAD);
        due(22, "n 10", x.cone(0, 10, 1, 1, true), BAD);
        due(22, "w -1", x.cone(0, 1, -1, 1, true), BAD);
        due(22, "w 10", x.cone(0, 1, 10, 1, true), BAD);
        due(22, "c -1", x.cone(0, 1, 1, -1, true), BAD);
        due(22, "c 100", x.cone(0, 1, 1, 100, true), BAD);
        due(22, "refused ones are none", x.about(8), 1);
    }

    private static void uncone() {
        OvensAbove x = new OvensAbove();
        due(23, "none", x.uncone(), 0);
        x.cone(0, 1, 0, 1, true);
        x.cone(0, 1, 0, 1, true);
        due(23, "it is not true", x.blame(0), 0);
        due(23, "two", x.uncone(), 2);
        due(23, "none are left", x.about(8), 0);
        due(23, "all is true", x.blame(0), 2047);
        due(23, "none", x.uncone(), 0);
        due(23, "a new one", x.cone(0, 1, 0, 0, true), 1);
    }

    private static void blame() {
        OvensAbove x = new OvensAbove();
        due(24, "no cones", x.blame(1), 2047);
        x.damp(1, 4);
        due(24, "less its damper", x.blame(1), 127);
        x.damp(1, 0);
        // 5 wood: kiln 1 has 10 s behind two quarters.
        x.cone(1, 2, 5, 3, true);
        due(24, "30 or more", x.blame(0), 2047 - 7);
        x.damp(0, 2);
        due(24, "less its damper", x.blame(0), 511 - 7);
        x.damp(0, 0);
        x.cone(1, 2, 5, 6, false);
        due(24, "less than 60", x.blame(0), 8 + 16 + 32);
        due(24, "with the shutter as it is, 50", x.blame(1), 2047);
        x.open(0, 6);
        due(24, "60 is not less", x.blame(1), 0);
        x.quarter(9);
        due(24, "heat that is now is not asked for", x.blame(0), 8 + 16 + 32);
        due(24, "nothing is changed", x.kiln(0, 1), 6);
        due(24, "nothing is changed", x.kiln(0, 0), 180);
        due(24, "no such kiln", x.blame(2), UNKNOWN);
        due(24, "no such kiln", x.blame(-1), UNKNOWN);
        x.uncone();
        x.cone(0, 1, 5, 10, true);
        due(24, "100 are 100", x.blame(0), 2047);
        x.cone(0, 1, 5, 10, false);
        due(24, "not less", x.blame(0), 0);
        x.uncone();
        tell(x, "K3");
        x.tower();
        x.cone(2, 1, 1, 1, false);
        due(24, "0 is less than 10", x.blame(0), 2047);
        tell(x, "K2");
        x.tower();
        due(24, "a kiln that is not there any more", x.blame(0), 0);
        tell(x, "K4");
        x.tower();
        due(24, "a kiln that is there again", x.blame(0), 2047);
        due(24, "it is told still", x.about(8), 1);
    }

    private static void owes(OvensAbove x, int kiln, int upper, int lower) {
        due(25, "owed(" + kiln + ", true)", x.owed(kiln, true), upper);
        due(25, "owed(" + kiln + ", false)", x.owed(kiln, false), lower);
    }

    private static void owed() {
        OvensAbove x = of("K3");
        owes(x, 0, 0, 1);
        owes(x, 2, 0, 1);
        x.quarter(5);
        owes(x, 0, 1, 1);
        owes(x, 1, 0, 1);
        x.quarter(5);
        owes(x, 0, 3, 4);
        owes(x, 1, 1, 4);
        owes(x, 2, 0, 1);
        x.quarter(5);
        owes(x, 0, 7, 12);
        owes(x, 1, 1, 3);
        owes(x, 2, 1, 12);
        due(25, "no such kiln", x.owed(3, true), UNKNOWN);
        due(25, "no such kiln", x.owed(-1, false), UNKNOWN);
    }

    private static void keep() {
        OvensAbove x = of("K2P000929");
        due(26, "cold", x.keep(0), 0);
        x.quarter(4);
        due(26, "80", x.keep(1), 80);
        due(26, "no such slot", x.keep(2), UNKNOWN);
        due(26, "no such slot", x.keep(-1), UNKNOWN);
        due(26, "the row stays", x.about(2), 1);
        x.quarter(0);
        due(26, "over it", x.keep(0), 80);
        due(26, "the row stays", x.about(2), 2);
        due(26, "as kept last", x.again(0), 80);
        due(26, "as kept last", x.kiln(1, 0), 40);
        due(26, "the other", x.again(1), 80);
        due(26, "the other", x.kiln(1, 0), 0);
    }

    private static void again() {
        OvensAbove x = of("K2S045P000929P100999");
        due(27, "none kept", x.again(0), LATE);
        due(27, "no such slot", x.again(2), UNKNOWN);
        due(27, "no such slot", x.again(-1), UNKNOWN);
        x.quarter(4);
        x.quarter(1);
        x.keep(1);
        due(27, "none kept in the other", x.again(0), LATE);
        x.open(0, 1);
        x.damp(0, 0);
        x.put(1, 0);
        x.quarter(9);
        x.quarter(9);
        due(27, "again", x.again(1), 60);
        due(27, "heat", x.kiln(0, 0), 28);
        due(27, "heat", x.kiln(1, 0), 32);
        due(27, "shutter", x.kiln(0, 1), 4);
        due(27, "damper", x.kiln(0, 2), 5);
        due(27, "out", x.about(4), 40);
        due(27, "READY", x.pot(0, 7), 1);
        due(27, "its quarters", x.pot(0, 6), 2);
        due(27, "where it was", x.pot(1, 0), 1);
        due(27, "how it was", x.pot(1, 7), 0);
        due(27, "its quarters", x.pot(1, 6), 2);
        due(27, "no row", x.about(2), 0);
        due(27, "no row", x.undo(), LATE);
        x.quarter(0);
        due(27, "as often as one likes", x.again(1), 60);
        due(27, "heat", x.kiln(0, 0), 28);
        x.quarter(0);
        due(27, "refused: the row stays", x.again(0), LATE);
        due(27, "refused: the row stays", x.about(2), 1);
    }
}
