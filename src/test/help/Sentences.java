/**
 * Tests that each bear a sentence of the document: what is wrong is told under the sentence that
 * does not hold, and one that does not hold keeps none of the others from being tried.
 */
abstract class Sentences {
    static final int NONE = OrreryWorks.NONE, BAD = OrreryWorks.BAD, FULL = OrreryWorks.FULL, SPUN = OrreryWorks.SPUN,
        VOID = OrreryWorks.VOID, ZERO = OrreryWorks.ZERO, CAST = OrreryWorks.CAST, INDEX = OrreryWorks.INDEX,
        STORE = OrreryWorks.STORE, NULL = OrreryWorks.NULL;
    static final int INT = 0, LONG = 1, FLOAT = 2, DOUBLE = 3;
    static final int COARSE = 0, FINE = 1, VERNIER = 2, LAMP = 3;
    static final int OF_HANDS = 0, OF_FINE = 1, OF_VERNIERS = 2, OF_SHOWING = 3;
    static final double ENDLESS = Double.POSITIVE_INFINITY;
    private static final int TOLD_OF_EACH = 5;
    private static int tried = 0, broken = 0, wrongHere = 0;

    static void sentence(String quoted, Runnable test) {
        tried++;
        wrongHere = 0;
        try {
            test.run();
        } catch (RuntimeException thrown) {
            wrong("it threw " + thrown);
        }
        if (wrongHere == 0) return;
        broken++;
        System.out.println("DOES NOT HOLD: " + quoted);
    }

    static void end() {
        System.out.println(broken == 0 ? "all " + tried + " hold" : broken + " of " + tried + " do not hold");
        if (broken != 0) System.exit(1);
    }

    static void due(String what, long got, long want) {
        if (got != want) wrong(what + " answered " + got + ", due is " + want);
    }

    /** A call that answers any number: 0, and why. */
    static void dueNothing(OrreryWorks x, String what, long got, int why) {
        due(what, got, 0);
        due("refused() after " + what, x.refused(), why);
    }

    /** A call that answers any number, and was not refused. */
    static void dueNumber(OrreryWorks x, String what, long got, long want) {
        due(what, got, want);
        due("refused() after " + what, x.refused(), 0);
    }

    private static void wrong(String what) {
        wrongHere++;
        if (wrongHere <= TOLD_OF_EACH) System.out.println("  " + what);
    }

    static long bits(double d) {
        return Double.doubleToRawLongBits(d);
    }

    static long bits(float f) {
        return Float.floatToRawIntBits(f);
    }

    static OrreryWorks withWheels(int kind, double... turns) {
        OrreryWorks x = new OrreryWorks();
        for (double turn : turns) x.wheel(kind, bits(turn));
        return x;
    }

    static OrreryWorks withRegisters(int... kinds) {
        OrreryWorks x = new OrreryWorks();
        for (int kind : kinds) x.register(kind);
        return x;
    }

    static OrreryWorks withStrips(int n, int... lanes) {
        OrreryWorks x = new OrreryWorks();
        for (int lane : lanes) x.strip(lane, n);
        return x;
    }

    /** A wheel of doubles with an endless TURN, so that its POSITION is whatever it is turned by. */
    static OrreryWorks withPosition(double position) {
        OrreryWorks x = withWheels(DOUBLE, ENDLESS);
        x.turn(0, bits(position));
        for (int sort = COARSE; sort <= LAMP; sort++) x.pointer(sort, 0);
        for (int sort = OF_HANDS; sort <= OF_SHOWING; sort++) x.stand(sort, 2);
        return x;
    }

    static long shown(OrreryWorks x, int pointer) {
        x.hang(OF_SHOWING, 0, pointer);
        return x.show(OF_SHOWING, 0);
    }

    static void loadDouble(OrreryWorks x, int register, double value) {
        x.load(register, DOUBLE, bits(value));
    }

    /**
     * Some of everything: what is 0 .. 3 is of that kind, lane or sort; register 4 is an int of 0,
     * strip 4 is GONE; of two PLACES of a stand the first bears a pointer.
     */
    static OrreryWorks withSome() {
        OrreryWorks x = withRegisters(INT, LONG, FLOAT, DOUBLE, INT);
        x.wheel(FLOAT, bits(3.5));
        x.wheel(DOUBLE, bits(-7.25));
        x.turn(0, bits(1.1));
        x.turn(1, bits(-2.2));
        for (int kind = INT; kind <= DOUBLE; kind++) {
            loadDouble(x, kind, 5.5 + kind);
            x.strip(kind, 3);
            x.keep(kind, kind, 1, kind);
            x.pointer(kind, kind % 2);
            x.stand(kind, 2);
        }
        for (int stand = OF_HANDS; stand <= OF_VERNIERS; stand++) x.set(stand, 0, VERNIER);
        x.hang(OF_SHOWING, 0, LAMP);
        x.strip(FLOAT, 2);
        x.tear(4);
        return x;
    }

    /** The same, and as many of each as there may be. */
    static OrreryWorks withMost() {
        OrreryWorks x = withSome();
        while (x.count(0) < 10) x.wheel(DOUBLE, bits(2.0));
        while (x.count(1) < 16) x.register(INT);
        while (x.count(2) < 8) x.strip(INT, 1);
        while (x.count(3) < 12) x.pointer(COARSE, 0);
        while (x.count(4) < 8) x.stand(OF_HANDS, 1);
        return x;
    }
}
