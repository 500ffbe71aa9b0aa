/** Each sentence of the document's 'What it is' and 'Terms' that names a boundary case, with a test of its own. */
public final class TermsAtTheirEdges extends Sentences {
    private static final float GREATEST_FLOAT = Float.MAX_VALUE, LEAST_FLOAT = Float.MIN_VALUE;
    private static final double GREATEST = Double.MAX_VALUE, LEAST = Double.MIN_VALUE;
    private static final long ENDLESS_BITS = 0x7FF0_0000_0000_0000L, SIGN = Long.MIN_VALUE;
    /** The least double that is cast to an endless float, and the greatest that is cast to 0.0f. */
    private static final double ENDLESS_AS_FLOAT = 0x1.ffffffp127, ZERO_AS_FLOAT = 0x1p-150;

    private static final long[] NO_DOUBLES = {ENDLESS_BITS + 1, 0x7FF8_0000_0000_0000L, Long.MAX_VALUE, SIGN | ENDLESS_BITS + 1, -1L};
    private static final int[] NO_FLOATS = {0x7F80_0001, 0x7FC0_0000, 0x7FFF_FFFF, 0xFF80_0001, -1};
    private static final double[] ENDS = {0.0, -0.0, 1.0, -1.0, ENDLESS, -ENDLESS};

    /** Kind and bits, kind and bits: the ends of each kind, as the language casts them. */
    private static final long[][] CASTS = {
        {INT, Integer.MIN_VALUE, LONG, -2147483648L},
        {INT, Integer.MAX_VALUE, FLOAT, bits(2147483648.0f)},
        {INT, 16777217, FLOAT, bits(16777216.0f)},
        {INT, 16777219, FLOAT, bits(16777220.0f)},
        {INT, Integer.MIN_VALUE, DOUBLE, bits(-2147483648.0)},
        {INT, Integer.MAX_VALUE, DOUBLE, bits(2147483647.0)},
        {LONG, 2147483647L, INT, Integer.MAX_VALUE},
        {LONG, 2147483648L, INT, Integer.MIN_VALUE},
        {LONG, -2147483649L, INT, Integer.MAX_VALUE},
        {LONG, 4294967296L, INT, 0},
        {LONG, Long.MAX_VALUE, INT, -1},
        {LONG, Long.MIN_VALUE, INT, 0},
        {LONG, Long.MAX_VALUE, FLOAT, bits(0x1p63f)},
        {LONG, Long.MIN_VALUE, FLOAT, bits(-0x1p63f)},
        {LONG, 0x4000_0040_0000_0001L, FLOAT, bits(0x1.000002p62f)},
        {LONG, 0x4000_0040_0000_0000L, FLOAT, bits(0x1p62f)},
        {LONG, Long.MAX_VALUE, DOUBLE, bits(0x1p63)},
        {LONG, Long.MIN_VALUE, DOUBLE, bits(-0x1p63)},
        {LONG, (1L << 53) + 1, DOUBLE, bits(0x1p53)},
        {LONG, (1L << 53) + 3, DOUBLE, bits(0x1p53 + 4)},
        {FLOAT, bits(2147483648.0f), INT, Integer.MAX_VALUE},
        {FLOAT, bits(2147483520.0f), INT, 2147483520},
        {FLOAT, bits(-2147483648.0f), INT, Integer.MIN_VALUE},
        {FLOAT, bits(-2147483904.0f), INT, Integer.MIN_VALUE},
        {FLOAT, bits(Float.POSITIVE_INFINITY), INT, Integer.MAX_VALUE},
        {FLOAT, bits(Float.NEGATIVE_INFINITY), INT, Integer.MIN_VALUE},
        {FLOAT, bits(-0.99999994f), INT, 0},
        {FLOAT, bits(LEAST_FLOAT), INT, 0},
        {FLOAT, bits(0x1p63f), LONG, Long.MAX_VALUE},
        {FLOAT, bits(0x1.fffffep62f), LONG, 0x7FFF_FF80_0000_0000L},
        {FLOAT, bits(-0x1p63f), LONG, Long.MIN_VALUE},
        {FLOAT, bits(-0x1.000002p63f), LONG, Long.MIN_VALUE},
        {FLOAT, bits(Float.POSITIVE_INFINITY), LONG, Long.MAX_VALUE},
        {FLOAT, bits(Float.NEGATIVE_INFINITY), LONG, Long.MIN_VALUE},
        {FLOAT, bits(LEAST_FLOAT), DOUBLE, bits(0x1p-149)},
        {FLOAT, bits(-GREATEST_FLOAT), DOUBLE, bits(-0x1.fffffep127)},
        {FLOAT, bits(Float.NEGATIVE_INFINITY), DOUBLE, bits(-ENDLESS)},
        {FLOAT, bits(-0.0f), DOUBLE, bits(-0.0)},
        {FLOAT, bits(-0.0f), INT, 0},
        {DOUBLE, bits(2147483647.0), INT, Integer.MAX_VALUE},
        {DOUBLE, bits(2147483646.9999998), INT, 2147483646},
        {DOUBLE, bits(2147483648.0), INT, Integer.MAX_VALUE},
        {DOUBLE, bits(-2147483648.9), INT, Integer.MIN_VALUE},
        {DOUBLE, bits(-2147483649.0), INT, Integer.MIN_VALUE},
        {DOUBLE, bits(-2147483647.9999998), INT, -2147483647},
        {DOUBLE, bits(4294967297.0), INT, Integer.MAX_VALUE},
        {DOUBLE, bits(ENDLESS), INT, Integer.MAX_VALUE},
        {DOUBLE, bits(-ENDLESS), INT, Integer.MIN_VALUE},
        {DOUBLE, bits(-0.9999999999999999), INT, 0},
        {DOUBLE, bits(0x1p63), LONG, Long.MAX_VALUE},
        {DOUBLE, bits(0x1.fffffffffffffp62), LONG, Long.MAX_VALUE - 1023},
        {DOUBLE, bits(-0x1p63), LONG, Long.MIN_VALUE},
        {DOUBLE, bits(-0x1.0000000000001p63), LONG, Long.MIN_VALUE},
        {DOUBLE, bits(ENDLESS), LONG, Long.MAX_VALUE},
        {DOUBLE, bits(-ENDLESS), LONG, Long.MIN_VALUE},
        {DOUBLE, bits(-LEAST), LONG, 0},
        {DOUBLE, bits(-0.0), LONG, 0},
        {DOUBLE, bits(ENDLESS_AS_FLOAT), FLOAT, bits(Float.POSITIVE_INFINITY)},
        {DOUBLE, bits(0x1.fffffefffffffp127), FLOAT, bits(GREATEST_FLOAT)},
        {DOUBLE, bits(-GREATEST), FLOAT, bits(Float.NEGATIVE_INFINITY)},
        {DOUBLE, bits(ENDLESS), FLOAT, bits(Float.POSITIVE_INFINITY)},
        {DOUBLE, bits(ZERO_AS_FLOAT), FLOAT, bits(0.0f)},
        {DOUBLE, bits(-ZERO_AS_FLOAT), FLOAT, bits(-0.0f)},
        {DOUBLE, bits(0x1.0000000000001p-150), FLOAT, bits(LEAST_FLOAT)},
        {DOUBLE, bits(0x1.fffffep-127), FLOAT, bits(0x1p-126f)},
        {DOUBLE, bits(-0.0), FLOAT, bits(-0.0f)},
        {DOUBLE, bits(16777217.0), FLOAT, bits(16777216.0f)},
    };

    public static void main(String[] args) {
        calls();
        values();
        wheels();
        registers();
        strips();
        pointers();
        stands();
        end();
    }

    private static void calls() {
        sentence("An object is used for at most 512 calls after it has been made", () -> {
            OrreryWorks x = new OrreryWorks();
            x.wheel(DOUBLE, bits(ENDLESS));
            for (int call = 2; call <= 510; call += 2) dueNothing(x, "call " + call, x.turn(0, bits(ENDLESS)), SPUN);
            due("call 512", x.often(SPUN), 255);
            OrreryWorks y = new OrreryWorks();
            y.wheel(DOUBLE, bits(2.0));
            for (int call = 2; call <= 511; call++) due("call " + call, y.turn(0, bits(1.0)), call % 2);
            due("call 512", y.wheelOf(0, 0), bits(0.0));
            OrreryWorks z = new OrreryWorks();
            for (int call = 1; call <= 16; call++) z.register(INT);
            for (int call = 17; call <= 511; call++) due("call " + call, z.register(INT), FULL);
            due("call 512", z.often(FULL), 495);
        });
    }

    private static void values() {
        sentence("THE BITS of a value, a long: of an int, a long it", () -> {
            OrreryWorks x = withRegisters(INT, LONG);
            for (int value : new int[] {Integer.MIN_VALUE, -1, 0, Integer.MAX_VALUE}) {
                x.load(0, INT, value);
                dueNumber(x, "int " + value, x.read(0, INT), value);
            }
            for (long value : new long[] {Long.MIN_VALUE, -1L << 32, 0, Long.MAX_VALUE}) {
                x.load(1, LONG, value);
                dueNumber(x, "long " + value, x.read(1, LONG), value);
            }
        });
        sentence("of a float its 32 bits, as an int", () -> {
            OrreryWorks x = withRegisters(FLOAT);
            float[] values = {0.0f, -0.0f, LEAST_FLOAT, -LEAST_FLOAT, 0x0.fffffep-126f, 0x1p-126f, -1.0f, GREATEST_FLOAT,
                -GREATEST_FLOAT, Float.POSITIVE_INFINITY, Float.NEGATIVE_INFINITY};
            for (float value : values) {
                x.load(0, FLOAT, bits(value));
                dueNumber(x, "float " + value, x.read(0, FLOAT), bits(value));
            }
            x.load(0, DOUBLE, bits(-0.0));
            due("-0.0 is below 0 as an int, not as 32 bits of a long", x.read(0, FLOAT), -2147483648L);
        });
        sentence("of a double its 64 bits", () -> {
            OrreryWorks x = withRegisters(DOUBLE);
            double[] values = {0.0, -0.0, LEAST, -LEAST, 0x0.fffffffffffffp-1022, 0x1p-1022, -1.0, GREATEST, -GREATEST, ENDLESS, -ENDLESS};
            for (double value : values) {
                loadDouble(x, 0, value);
                dueNumber(x, "double " + value, x.read(0, DOUBLE), bits(value));
            }
        });
        sentence("of a float its 32 bits, .. of a double its 64 bits (with each exponent)", () -> {
            for (long exponent = 0; exponent < 2047; exponent++) {
                OrreryWorks x = withRegisters(FLOAT, DOUBLE);
                for (long digits : new long[] {0, 1, 0xA_5A5A_5A5A_5A5BL, (1L << 52) - 1}) {
                    long bits = exponent << 52 | digits;
                    x.load(1, DOUBLE, bits);
                    dueNumber(x, "double bits " + bits, x.read(1, DOUBLE), bits);
                    if (exponent > 254) continue;
                    long floatBits = exponent << 23 | digits & (1L << 23) - 1;
                    x.load(0, FLOAT, floatBits);
                    dueNumber(x, "float bits " + floatBits, x.read(0, FLOAT), floatBits);
                }
            }
        });
        sentence("KINDS 0 int, 1 long, 2 float, 3 double.", () -> {
            OrreryWorks x = withSome();
            for (int kind : new int[] {-1, 4, Integer.MIN_VALUE, Integer.MAX_VALUE}) {
                due("register " + kind, x.register(kind), BAD);
                due("load " + kind, x.load(0, kind, 0), BAD);
                dueNothing(x, "read " + kind, x.read(0, kind), BAD);
                due("strip " + kind, x.strip(kind, 1), BAD);
                due("keep " + kind, x.keep(0, kind, 0, 0), BAD);
                dueNothing(x, "kept " + kind, x.kept(0, kind, 0), BAD);
                due("wheel " + kind, x.wheel(kind, bits(1.0)), BAD);
            }
            OrreryWorks y = withRegisters(INT, LONG, FLOAT, DOUBLE);
            long[] dues = {bits(33554433.0), bits(33554433.0), bits(33554432.0), bits(33554433.5)};
            for (int kind = INT; kind <= DOUBLE; kind++) {
                loadDouble(y, kind, 33554433.5);
                dueNumber(y, "kind " + kind, y.read(kind, DOUBLE), dues[kind]);
            }
            loadDouble(y, INT, 1.0E18);
            loadDouble(y, LONG, 1.0E18);
            due("an int", y.read(INT, LONG), Integer.MAX_VALUE);
            due("a long", y.read(LONG, LONG), 1000000000000000000L);
        });
        for (int from = INT; from <= DOUBLE; from++) {
            for (int to = INT; to <= DOUBLE; to++) {
                int kind = from, other = to;
                if (from != to) sentence("TO CAST is as the language does it. (kind " + from + " to " + to + ")", () -> casts(kind, other));
            }
        }
        sentence("No value is ever what is no number: BITS of such a one are BAD (wheel)", () -> {
            OrreryWorks x = new OrreryWorks();
            for (long none : NO_DOUBLES) {
                due("wheel of floats " + none, x.wheel(FLOAT, none), BAD);
                due("wheel of doubles " + none, x.wheel(DOUBLE, none), BAD);
            }
            due("none was made", x.count(0), 0);
            due("the last bits that are a number", x.wheel(DOUBLE, ENDLESS_BITS), 0);
            due("the last below 0", x.wheel(FLOAT, SIGN | ENDLESS_BITS), 1);
        });
        sentence("No value is ever what is no number: BITS of such a one are BAD (turn)", () -> {
            OrreryWorks x = withWheels(FLOAT, 2.0);
            x.wheel(DOUBLE, bits(2.0));
            for (long none : NO_DOUBLES) {
                dueNothing(x, "turn of floats " + none, x.turn(0, none), BAD);
                dueNothing(x, "turn of doubles " + none, x.turn(1, none), BAD);
            }
            due("not turned", x.wheelOf(0, 0) | x.wheelOf(1, 0), 0);
            dueNothing(x, "the last bits that are a number", x.turn(1, ENDLESS_BITS), SPUN);
            dueNothing(x, "the last below 0", x.turn(0, SIGN | ENDLESS_BITS), SPUN);
        });
        sentence("No value is ever what is no number: BITS of such a one are BAD (load)", () -> {
            OrreryWorks x = withRegisters(INT, LONG, FLOAT, DOUBLE);
            for (int register = INT; register <= DOUBLE; register++) {
                for (long none : NO_DOUBLES) due("double " + none, x.load(register, DOUBLE, none), BAD);
                for (int none : NO_FLOATS) {
                    due("float " + none, x.load(register, FLOAT, none), BAD);
                    due("float by its lowest 32", x.load(register, FLOAT, none & 0xFFFF_FFFFL), BAD);
                }
                due("nothing was loaded", x.read(register, register), 0);
            }
            due("no number as a long", x.load(LONG, LONG, -1), 1);
            due("no number as an int", x.load(INT, INT, NO_FLOATS[0]), 1);
            due("no double, a float by its lowest 32", x.load(FLOAT, FLOAT, 0x7FF8_0000_0000_0000L), 1);
            due("the last double", x.load(DOUBLE, DOUBLE, ENDLESS_BITS), 1);
            due("the last float", x.load(FLOAT, FLOAT, 0x7F80_0000), 1);
            due("the last double below 0", x.load(DOUBLE, DOUBLE, SIGN | ENDLESS_BITS), 1);
            due("the last float below 0", x.load(FLOAT, FLOAT, 0xFF80_0000), 1);
        });
        sentence("and what would come to one is VOID.", () -> {
            for (int kind = FLOAT; kind <= DOUBLE; kind++) {
                for (double a : ENDS) for (double b : ENDS) for (int what = 0; what <= 4; what++) {
                    boolean isNone = Double.isNaN(worked(what, a, b));
                    OrreryWorks x = withRegisters(kind, kind, DOUBLE);
                    loadDouble(x, 0, a);
                    loadDouble(x, 1, b);
                    due("work(" + what + ") of " + a + ", " + b, x.work(what, 0, 1, 2), isNone ? VOID : 1);
                }
            }
        });
    }

    private static double worked(int what, double a, double b) {
        switch (what) {
            case 0: return a + b;
            case 1: return a - b;
            case 2: return a * b;
            case 3: return a / b;
            default: return a % b;
        }
    }

    private static void casts(int from, int to) {
        int tried = 0;
        for (long[] cast : CASTS) {
            if (cast[0] != from || cast[2] != to) continue;
            oneCast(cast);
            tried++;
        }
        due("whether some were tried", tried > 0 ? 1 : 0, 1);
    }

    /** One cast in each of the calls in which a value goes from one kind to another. */
    private static void oneCast(long[] cast) {
        int from = (int) cast[0], to = (int) cast[2];
        long bits = cast[1], want = cast[3];
        String of = " of " + bits;
        OrreryWorks x = withRegisters(from, to, from);
        x.strip(to, 1);
        x.load(1, from, bits);
        dueNumber(x, "load" + of, x.read(1, to), want);
        x.load(0, from, bits);
        dueNumber(x, "read" + of, x.read(0, to), want);
        x.load(1, INT, 77);
        x.move(0, 1);
        dueNumber(x, "move" + of, x.read(1, to), want);
        x.keep(0, to, 0, 0);
        dueNumber(x, "keep" + of, x.kept(0, to, 0), want);
        x.load(1, INT, 77);
        due("less 0" + of, x.work(1, 0, 2, 1), 1);
        dueNumber(x, "work" + of, x.read(1, to), want);
        double value = from == FLOAT ? Float.intBitsToFloat((int) bits) : Double.longBitsToDouble(bits);
        if (from < FLOAT || Double.isInfinite(value) || value == 0.0) return;
        OrreryWorks y = withWheels(from, ENDLESS);
        y.register(to);
        y.register(DOUBLE);
        y.strip(from, 2);
        y.turn(0, bits(value));
        y.take(0, 0);
        dueNumber(y, "take" + of, y.read(0, to), want);
        loadDouble(y, 1, value);
        y.keep(0, from, 0, 1);
        loadDouble(y, 1, ENDLESS);
        y.keep(0, from, 1, 1);
        due("one rest" + of, y.rests(0, 0), 1);
        dueNumber(y, "rests" + of, y.read(0, to), want);
    }

    private static void wheels() {
        sentence("WHEELS, 10 at most", () -> {
            OrreryWorks x = new OrreryWorks();
            for (int i = 0; i < 10; i++) due("wheel " + i, x.wheel(FLOAT + i % 2, bits(1.0 + i)), i);
            due("the eleventh", x.wheel(DOUBLE, bits(1.0)), FULL);
            due("the eleventh, of floats", x.wheel(FLOAT, bits(1.0)), FULL);
            due("ten", x.count(0), 10);
            dueNumber(x, "the tenth is there", x.wheelOf(9, 1), bits(10.0));
            dueNothing(x, "there is no eleventh", x.wheelOf(10, 1), BAD);
        });
        sentence("of a KIND 2 or 3", () -> {
            OrreryWorks x = new OrreryWorks();
            for (int kind : new int[] {Integer.MIN_VALUE, -1, INT, LONG, 4, Integer.MAX_VALUE}) due("kind " + kind, x.wheel(kind, bits(1.0)), BAD);
            due("kind 2", x.wheel(FLOAT, bits(0.1)), 0);
            due("kind 3", x.wheel(DOUBLE, bits(0.1)), 1);
            due("a float", x.wheelOf(0, 1), bits(0.1f));
            due("a double", x.wheelOf(1, 1), bits(0.1));
        });
        sentence("have a TURN (a value of it, not 0,", () -> {
            OrreryWorks x = new OrreryWorks();
            for (int kind = FLOAT; kind <= DOUBLE; kind++) {
                due("0.0", x.wheel(kind, bits(0.0)), BAD);
                due("-0.0", x.wheel(kind, bits(-0.0)), BAD);
            }
            due("the least", x.wheel(DOUBLE, bits(LEAST)), 0);
            due("the least float", x.wheel(FLOAT, bits((double) LEAST_FLOAT)), 1);
            due("they stay", x.wheelOf(0, 1) + x.wheelOf(1, 1), 2);
        });
        sentence("have a TURN (a value of it, .. perhaps below,", () -> {
            OrreryWorks x = withWheels(DOUBLE, -3.0, -LEAST);
            x.wheel(FLOAT, bits(-3.0));
            due("all three", x.count(0), 3);
            due("below", x.wheelOf(0, 1), bits(-3.0));
            due("the least below", x.wheelOf(1, 1), bits(-LEAST));
            due("of floats", x.wheelOf(2, 1), bits(-3.0f));
            due("turns go the other way", x.turn(0, bits(7.0)), -2);
            due("turns of floats go the other way", x.turn(2, bits(-7.0)), 2);
        });
        sentence("have a TURN (a value of it, .. perhaps endless)", () -> {
            OrreryWorks x = withWheels(DOUBLE, ENDLESS, -ENDLESS);
            x.wheel(FLOAT, bits(ENDLESS));
            x.wheel(FLOAT, bits(-ENDLESS_AS_FLOAT));
            due("all four", x.count(0), 4);
            long[] turns = {bits(ENDLESS), bits(-ENDLESS), bits(Float.POSITIVE_INFINITY), bits(Float.NEGATIVE_INFINITY)};
            for (int wheel = 0; wheel < 4; wheel++) {
                due("endless turn of " + wheel, x.wheelOf(wheel, 1), turns[wheel]);
                dueNumber(x, "no turn is ever whole", x.turn(wheel, bits(-1.0E30)), 0);
                due("all of it is rest", x.wheelOf(wheel, 0), wheel < 2 ? bits(-1.0E30) : bits(-1.0E30f));
            }
        });
        sentence("and a POSITION, 0.0 at first.", () -> {
            OrreryWorks x = withWheels(DOUBLE, 2.0, -2.0, -ENDLESS);
            x.wheel(FLOAT, bits(-2.0));
            for (int wheel = 0; wheel < 4; wheel++) dueNumber(x, "wheel " + wheel, x.wheelOf(wheel, 0), 0);
        });
        sentence("TO TURN one by a double, CAST to its KIND", () -> {
            OrreryWorks x = withWheels(FLOAT, ENDLESS, ENDLESS, ENDLESS, ENDLESS);
            dueNothing(x, "too large for a float", x.turn(0, bits(ENDLESS_AS_FLOAT)), SPUN);
            dueNothing(x, "too large below", x.turn(0, bits(-ENDLESS_AS_FLOAT)), SPUN);
            dueNumber(x, "just a float", x.turn(0, bits(0x1.fffffefffffffp127)), 0);
            due("the greatest float", x.wheelOf(0, 0), bits(GREATEST_FLOAT));
            dueNumber(x, "too small for a float", x.turn(1, bits(ZERO_AS_FLOAT)), 0);
            due("0", x.wheelOf(1, 0), bits(0.0f));
            x.turn(2, bits(0.1));
            due("rounded", x.wheelOf(2, 0), bits(0.1f));
            x.turn(3, bits(16777216.0));
            x.turn(3, bits(1.00000001));
            due("cast before it is added", x.wheelOf(3, 0), bits(16777216.0f));
        });
        sentence("SUM is POSITION and that", () -> {
            OrreryWorks x = withWheels(FLOAT, ENDLESS, 16777216.0);
            x.wheel(DOUBLE, bits(ENDLESS));
            for (int i = 0; i < 3; i++) x.turn(0, bits(0.1));
            due("floats are added as floats", x.wheelOf(0, 0), bits(0.1f + 0.1f + 0.1f));
            for (int i = 0; i < 3; i++) x.turn(2, bits(0.1));
            due("doubles as doubles", x.wheelOf(2, 0), bits(0.1 + 0.1 + 0.1));
            x.turn(1, bits(16777215.0));
            due("the sum of floats is rounded to a whole turn", x.turn(1, bits(1.4)), 1);
            due("not the part alone", x.wheelOf(1, 0), bits(0.0f));
            x.turn(2, bits(-(0.1 + 0.1 + 0.1)));
            due("back to 0.0", x.wheelOf(2, 0), bits(0.0));
            x.turn(2, bits(-0.0));
            due("0.0 and -0.0 are 0.0", x.wheelOf(2, 0), bits(0.0));
        });
        sentence("if SUM is endless, that is SPUN, and all stays", () -> {
            OrreryWorks x = withWheels(DOUBLE, ENDLESS, 3.0, ENDLESS);
            x.turn(0, bits(GREATEST));
            dueNothing(x, "a sum that is just endless", x.turn(0, bits(0x1p970)), SPUN);
            due("the position stays", x.wheelOf(0, 0), bits(GREATEST));
            dueNumber(x, "one that is just not", x.turn(0, bits(0x1.fffffffffffffp969)), 0);
            x.turn(2, bits(-GREATEST));
            dueNothing(x, "just endless, below", x.turn(2, bits(-0x1p970)), SPUN);
            due("the position below stays", x.wheelOf(2, 0), bits(-GREATEST));
            x.turn(1, bits(1.0));
            dueNothing(x, "by an endless one", x.turn(1, bits(ENDLESS)), SPUN);
            dueNothing(x, "by an endless one below", x.turn(1, bits(-ENDLESS)), SPUN);
            due("the position stays", x.wheelOf(1, 0), bits(1.0));
            due("the turn stays", x.wheelOf(1, 1), bits(3.0));
            due("SPUN", x.often(SPUN), 4);
        });
        sentence("if SUM is endless, that is SPUN, and all stays (of floats)", () -> {
            OrreryWorks x = withWheels(FLOAT, ENDLESS, 3.0);
            x.turn(0, bits((double) GREATEST_FLOAT));
            dueNothing(x, "a sum that is just endless", x.turn(0, bits(0x1p103)), SPUN);
            due("the position stays", x.wheelOf(0, 0), bits(GREATEST_FLOAT));
            dueNumber(x, "one that is just not", x.turn(0, bits(0x1.fffffep102)), 0);
            due("the greatest", x.wheelOf(0, 0), bits(GREATEST_FLOAT));
            x.turn(1, bits(-1.0));
            dueNothing(x, "by one that is endless as a float", x.turn(1, bits(-1.0E300)), SPUN);
            due("the position stays", x.wheelOf(1, 0), bits(-1.0f));
            due("the turn stays", x.wheelOf(1, 1), bits(3.0f));
            due("SPUN", x.often(SPUN), 2);
        });
        sentence("else POSITION becomes the rest of SUM by TURN", () -> {
            double[][] turns = {{3.0, 2.9999999999999996}, {3.0, 3.0}, {3.0, 3.0000000000000004}, {0.1, 1.0}, {LEAST, GREATEST},
                {3 * LEAST, GREATEST}, {0.7, 1.0E300}, {GREATEST, GREATEST}, {GREATEST, 0x1.ffffffffffffep1023}, {0x1p-1022, 0x1.8p-1022}, {1.0, LEAST}};
            for (double[] turn : turns) {
                OrreryWorks x = withWheels(DOUBLE, turn[0]);
                x.turn(0, bits(turn[1]));
                dueNumber(x, turn[1] + " by " + turn[0], x.wheelOf(0, 0), bits(turn[1] % turn[0]));
                OrreryWorks y = withWheels(FLOAT, (float) turn[0] == 0.0f ? LEAST_FLOAT : turn[0]);
                float f = Float.intBitsToFloat((int) y.wheelOf(0, 1)), by = Float.isInfinite((float) turn[1]) ? GREATEST_FLOAT : (float) turn[1];
                y.turn(0, bits((double) by));
                dueNumber(y, by + " by " + f + ", floats", y.wheelOf(0, 0), bits(by % f));
            }
        });
        sentence("(with the sign of SUM)", () -> {
            for (double turn : new double[] {3.0, -3.0}) {
                for (double sum : new double[] {7.0, -7.0, 6.0, -6.0, 2.0, -2.0, LEAST, -LEAST}) {
                    OrreryWorks x = withWheels(DOUBLE, turn);
                    x.turn(0, bits(sum));
                    due(sum + " by " + turn, x.wheelOf(0, 0), bits(Math.copySign(Math.abs(sum) % 3.0, sum)));
                    OrreryWorks y = withWheels(FLOAT, turn);
                    y.turn(0, bits((double) (float) sum));
                    due(sum + " by " + turn + ", floats", y.wheelOf(0, 0), bits(Math.copySign(Math.abs((float) sum) % 3.0f, (float) sum == 0.0f ? 1.0f : (float) sum)));
                }
            }
        });
        sentence("and TURNS are SUM by TURN (a quotient of its KIND)", () -> {
            OrreryWorks x = withWheels(FLOAT, 0.1);
            x.wheel(DOUBLE, bits((double) 0.1f));
            x.wheel(DOUBLE, bits(0.1));
            due("a quotient of floats, rounded up to a whole", x.turn(0, bits((double) 0.5f)), 5);
            due("though a rest is left", x.wheelOf(0, 0), bits(0.5f % 0.1f));
            due("one of doubles, of the same values", x.turn(1, bits((double) 0.5f)), 4);
            due("one of doubles, rounded up", x.turn(2, bits(1.0)), 10);
            due("though a rest is left", x.wheelOf(2, 0), bits(1.0 % 0.1));
            due("the position goes into the next sum", x.turn(2, bits(0.01)), 1);
        });
        sentence("CAST to an int.", () -> {
            double[][] turns = {{1.0, 2147483647.0, Integer.MAX_VALUE}, {1.0, 2147483648.0, Integer.MAX_VALUE}, {1.0, 1.0E18, Integer.MAX_VALUE},
                {1.0, -2147483648.0, Integer.MIN_VALUE}, {1.0, -2147483649.0, Integer.MIN_VALUE}, {-1.0, 1.0E18, Integer.MIN_VALUE},
                {LEAST, 1.0, Integer.MAX_VALUE}, {-LEAST, 1.0, Integer.MIN_VALUE}, {1.0, 0.9999999999999999, 0}, {1.0, -1.9999999999999998, -1},
                {2.0, 3.9999999999999996, 1}, {ENDLESS, -5.0, 0}, {1.0, -0.0, 0}};
            for (double[] turn : turns) {
                OrreryWorks x = withWheels(DOUBLE, turn[0]);
                dueNumber(x, turn[1] + " by " + turn[0], x.turn(0, bits(turn[1])), (long) turn[2]);
            }
            OrreryWorks y = withWheels(FLOAT, LEAST_FLOAT, -1.0);
            dueNumber(y, "a quotient beyond the floats", y.turn(0, bits(1.0)), Integer.MAX_VALUE);
            dueNumber(y, "a quotient of floats beyond the ints", y.turn(1, bits(2147483648.0)), Integer.MIN_VALUE);
        });
    }

    private static void registers() {
        sentence("REGISTERS, 16 at most", () -> {
            OrreryWorks x = new OrreryWorks();
            for (int i = 0; i < 16; i++) due("register " + i, x.register(i % 4), i);
            for (int kind = INT; kind <= DOUBLE; kind++) due("the seventeenth", x.register(kind), FULL);
            due("sixteen", x.count(1), 16);
            due("the sixteenth is there", x.load(15, INT, 1), 1);
            due("there is no seventeenth", x.load(16, INT, 1), BAD);
        });
        sentence("hold a value, 0 at first.", () -> {
            OrreryWorks x = withRegisters(INT, LONG, FLOAT, DOUBLE);
            for (int register = 0; register < 4; register++) {
                for (int kind = INT; kind <= DOUBLE; kind++) dueNumber(x, "register " + register + " as " + kind, x.read(register, kind), 0);
            }
        });
        sentence("both are CAST to the greater one of their KINDS, worked in it", () -> {
            dueWorked("ints", 0, INT, Integer.MAX_VALUE, INT, 1, LONG, Integer.MIN_VALUE);
            dueWorked("an int and a long", 0, INT, Integer.MAX_VALUE, LONG, 1, LONG, 2147483648L);
            dueWorked("a long and an int", 2, LONG, 1L << 31, INT, 2, LONG, 1L << 32);
            dueWorked("an int and a float", 0, INT, 16777217, FLOAT, bits(0.0f), DOUBLE, bits(16777216.0));
            dueWorked("a float and an int", 3, FLOAT, bits(1.0f), INT, 3, DOUBLE, bits((double) (1.0f / 3)));
            dueWorked("a long and a float", 1, LONG, Long.MAX_VALUE, FLOAT, bits(0x1p63f), DOUBLE, bits(0.0));
            dueWorked("an int and a double", 0, INT, Integer.MAX_VALUE, DOUBLE, bits(0.5), DOUBLE, bits(2147483647.5));
            dueWorked("a double and a long", 1, DOUBLE, bits(0x1p53), LONG, (1L << 53) + 1, DOUBLE, bits(0.0));
            dueWorked("a float and a double", 2, FLOAT, bits(GREATEST_FLOAT), DOUBLE, bits(2.0), DOUBLE, bits(0x1.fffffep128));
            dueWorked("floats", 2, FLOAT, bits(GREATEST_FLOAT), FLOAT, bits(2.0f), DOUBLE, bits(ENDLESS));
            dueWorked("doubles", 2, DOUBLE, bits(GREATEST), DOUBLE, bits(-2.0), DOUBLE, bits(-ENDLESS));
            dueWorked("the least floats", 3, FLOAT, bits(-LEAST_FLOAT), FLOAT, bits(2.0f), DOUBLE, bits(-0.0));
            dueWorked("the least doubles", 3, DOUBLE, bits(LEAST), DOUBLE, bits(2.0), DOUBLE, bits(0.0));
        });
        sentence("(0 plus, 1 less, 2 times, 3 by, 4 the rest by;", () -> {
            long[] whole = {17 + 5, 17 - 5, 17 * 5, 17 / 5, 17 % 5};
            double[] real = {17.5 + 5.0, 17.5 - 5.0, 17.5 * 5.0, 17.5 / 5.0, 17.5 % 5.0};
            for (int what = 0; what <= 4; what++) {
                dueWorked("ints " + what, what, INT, 17, INT, 5, INT, whole[what]);
                dueWorked("longs " + what, what, LONG, 17, LONG, 5, LONG, whole[what]);
                dueWorked("floats " + what, what, FLOAT, bits(17.5f), FLOAT, bits(5.0f), FLOAT, bits((float) real[what]));
                dueWorked("doubles " + what, what, DOUBLE, bits(17.5), DOUBLE, bits(5.0), DOUBLE, bits(real[what]));
            }
            OrreryWorks x = withRegisters(INT);
            for (int what : new int[] {-1, 5, Integer.MIN_VALUE, Integer.MAX_VALUE}) due("what = " + what, x.work(what, 0, 0, 0), BAD);
        });
        sentence("ints and longs wrap,", () -> {
            dueWorked("the greatest int plus 1", 0, INT, Integer.MAX_VALUE, INT, 1, LONG, Integer.MIN_VALUE);
            dueWorked("the least int less 1", 1, INT, Integer.MIN_VALUE, INT, 1, LONG, Integer.MAX_VALUE);
            dueWorked("the least int times -1", 2, INT, Integer.MIN_VALUE, INT, -1, LONG, Integer.MIN_VALUE);
            dueWorked("the least int by -1", 3, INT, Integer.MIN_VALUE, INT, -1, LONG, Integer.MIN_VALUE);
            dueWorked("its rest", 4, INT, Integer.MIN_VALUE, INT, -1, LONG, 0);
            dueWorked("65536 times itself", 2, INT, 65536, INT, 65536, LONG, 0);
            dueWorked("the greatest int times itself", 2, INT, Integer.MAX_VALUE, INT, Integer.MAX_VALUE, LONG, 1);
            dueWorked("the greatest long plus 1", 0, LONG, Long.MAX_VALUE, INT, 1, LONG, Long.MIN_VALUE);
            dueWorked("the least long less 1", 1, LONG, Long.MIN_VALUE, LONG, 1, LONG, Long.MAX_VALUE);
            dueWorked("the least long times -1", 2, LONG, Long.MIN_VALUE, LONG, -1, LONG, Long.MIN_VALUE);
            dueWorked("the least long by -1", 3, LONG, Long.MIN_VALUE, LONG, -1, LONG, Long.MIN_VALUE);
            dueWorked("its rest", 4, LONG, Long.MIN_VALUE, INT, -1, LONG, 0);
            dueWorked("2 to the 32nd times itself", 2, LONG, 1L << 32, LONG, 1L << 32, LONG, 0);
        });
        sentence("are cut)", () -> {
            for (int kind = INT; kind <= LONG; kind++) {
                dueWorked("7 by 2", 3, kind, 7, kind, 2, DOUBLE, bits(3.0));
                dueWorked("-7 by 2", 3, kind, -7, kind, 2, DOUBLE, bits(-3.0));
                dueWorked("7 by -2", 3, kind, 7, kind, -2, DOUBLE, bits(-3.0));
                dueWorked("-1 by 2", 3, kind, -1, kind, 2, DOUBLE, bits(0.0));
                dueWorked("the rest of -7 by 2", 4, kind, -7, kind, 2, LONG, -1);
                dueWorked("the rest of 7 by -2", 4, kind, 7, kind, -2, LONG, 1);
                dueWorked("the rest of -7 by -2", 4, kind, -7, kind, -2, LONG, -1);
            }
        });
        sentence("and what comes is CAST to the third one's KIND.", () -> {
            dueWorked("longs into an int", 0, LONG, Integer.MAX_VALUE, LONG, 1, INT, Integer.MIN_VALUE);
            dueWorked("longs into a float", 0, LONG, 16777216, LONG, 1, FLOAT, bits(16777216.0f));
            dueWorked("longs into a double", 1, LONG, Long.MAX_VALUE, LONG, 0, DOUBLE, bits(0x1p63));
            dueWorked("floats into an int", 3, FLOAT, bits(-1.0f), FLOAT, bits(0.0f), INT, Integer.MIN_VALUE);
            dueWorked("floats into a long", 2, FLOAT, bits(GREATEST_FLOAT), FLOAT, bits(2.0f), LONG, Long.MAX_VALUE);
            dueWorked("doubles into a float, too large", 0, DOUBLE, bits(ENDLESS_AS_FLOAT), DOUBLE, bits(0.0), FLOAT, bits(Float.POSITIVE_INFINITY));
            dueWorked("doubles into a float, too small", 1, DOUBLE, bits(0.0), DOUBLE, bits(ZERO_AS_FLOAT), FLOAT, bits(-0.0f));
            dueWorked("doubles into an int", 2, DOUBLE, bits(1.5), DOUBLE, bits(-1.5), INT, -2);
            OrreryWorks x = withRegisters(INT, DOUBLE);
            x.load(0, INT, 7);
            loadDouble(x, 1, 0.5);
            due("into one of the two", x.work(0, 0, 1, 0), 1);
            due("which is an int still", x.read(0, DOUBLE), bits(7.0));
            due("into the other", x.work(2, 1, 1, 1), 1);
            due("which was taken twice", x.read(1, DOUBLE), bits(0.25));
        });
        sentence("ZERO: 3, 4 of ints, longs by 0.", () -> {
            for (int kind = INT; kind <= LONG; kind++) for (int other = INT; other <= LONG; other++) for (long a : new long[] {0, 1, -1, Integer.MIN_VALUE}) {
                dueNotWorked(3, kind, a, other, 0, ZERO);
                dueNotWorked(4, kind, a, other, 0, ZERO);
                dueWorked("plus 0", 0, kind, a, other, 0, LONG, a);
                dueWorked("less 0", 1, kind, a, other, 0, LONG, a);
                dueWorked("times 0", 2, kind, a, other, 0, LONG, 0);
                dueWorked("by 1", 3, kind, a, other, 1, LONG, a);
                dueWorked("the rest by 1", 4, kind, a, other, 1, LONG, 0);
                dueWorked("0 by 1", 3, kind, 0, other, 1, LONG, 0);
                dueWorked("the rest of 0 by -1", 4, kind, 0, other, -1, LONG, 0);
            }
            dueWorked("by a long that an int would be 0 of", 3, INT, 5, LONG, 1L << 32, LONG, 0);
            dueWorked("an int by a float of 0", 3, INT, -5, FLOAT, bits(0.0f), FLOAT, bits(Float.NEGATIVE_INFINITY));
            dueWorked("a double by an int of 0", 3, DOUBLE, bits(5.0), INT, 0, DOUBLE, bits(ENDLESS));
            dueNotWorked(4, DOUBLE, bits(5.0), LONG, 0, VOID);
        });
        sentence("VOID: of floats, doubles: both endless and of other signs (0)", () -> {
            dueVoids(0, new double[][] {{ENDLESS, -ENDLESS}, {-ENDLESS, ENDLESS}});
            dueReals(0, new double[][] {{ENDLESS, ENDLESS}, {-ENDLESS, -ENDLESS}, {ENDLESS, -GREATEST}, {GREATEST, -ENDLESS}, {-0.0, ENDLESS}, {0.0, -0.0}});
        });
        sentence("of the same (1)", () -> {
            dueVoids(1, new double[][] {{ENDLESS, ENDLESS}, {-ENDLESS, -ENDLESS}});
            dueReals(1, new double[][] {{ENDLESS, -ENDLESS}, {-ENDLESS, ENDLESS}, {ENDLESS, GREATEST}, {-GREATEST, -ENDLESS}, {0.0, 0.0}, {-0.0, 0.0}});
        });
        sentence("0 and an endless one (2)", () -> {
            dueVoids(2, new double[][] {{0.0, ENDLESS}, {-0.0, ENDLESS}, {0.0, -ENDLESS}, {ENDLESS, 0.0}, {-ENDLESS, -0.0}});
            dueReals(2, new double[][] {{0.0, GREATEST}, {-0.0, 0.0}, {LEAST, ENDLESS}, {-ENDLESS, ENDLESS}, {ENDLESS, -1.0}});
        });
        sentence("both 0, or both endless (3)", () -> {
            dueVoids(3, new double[][] {{0.0, 0.0}, {0.0, -0.0}, {-0.0, -0.0}, {ENDLESS, ENDLESS}, {ENDLESS, -ENDLESS}, {-ENDLESS, -ENDLESS}});
            dueReals(3, new double[][] {{0.0, ENDLESS}, {ENDLESS, -0.0}, {1.0, 0.0}, {-1.0, 0.0}, {0.0, -1.0}, {GREATEST, -ENDLESS}, {ENDLESS, GREATEST}});
        });
        sentence("the second one 0, or the first one endless (4).", () -> {
            dueVoids(4, new double[][] {{1.0, 0.0}, {-1.0, -0.0}, {0.0, 0.0}, {ENDLESS, 1.0}, {-ENDLESS, GREATEST}, {ENDLESS, 0.0}, {-ENDLESS, ENDLESS}});
            dueReals(4, new double[][] {{0.0, 1.0}, {-0.0, -1.0}, {1.0, ENDLESS}, {-GREATEST, -ENDLESS}, {0.0, ENDLESS}, {1.0, -1.0}, {-3.0, 2.0}});
        });
        sentence("VOID: of floats, doubles (when one of the two is an int, a long)", () -> {
            dueNotWorked(3, INT, 0, FLOAT, bits(-0.0f), VOID);
            dueNotWorked(4, LONG, 7, DOUBLE, bits(0.0), VOID);
            dueNotWorked(2, DOUBLE, bits(-ENDLESS), INT, 0, VOID);
            dueNotWorked(4, FLOAT, bits(Float.POSITIVE_INFINITY), LONG, 7, VOID);
        });
    }

    private static void dueWorked(String what, int how, int kindA, long a, int kindB, long b, int to, long want) {
        OrreryWorks x = withRegisters(kindA, kindB, to);
        x.load(0, kindA, a);
        x.load(1, kindB, b);
        due(what, x.work(how, 0, 1, 2), 1);
        dueNumber(x, what, x.read(2, to), want);
    }

    private static void dueNotWorked(int how, int kindA, long a, int kindB, long b, int why) {
        OrreryWorks x = withRegisters(kindA, kindB, INT);
        x.load(0, kindA, a);
        x.load(1, kindB, b);
        x.load(2, INT, 77);
        String what = "work(" + how + ") of " + a + ", " + b;
        due(what, x.work(how, 0, 1, 2), why);
        due(what + ", refused()", x.refused(), why);
        due(what + ", often()", x.often(why), 1);
        due(what + ", the third stays", x.read(2, INT), 77);
    }

    private static long bitsOf(int kind, double value) {
        return kind == FLOAT ? bits((float) value) : bits(value);
    }

    private static void dueVoids(int how, double[][] pairs) {
        for (double[] pair : pairs) for (int a = FLOAT; a <= DOUBLE; a++) for (int b = FLOAT; b <= DOUBLE; b++) {
            dueNotWorked(how, a, bitsOf(a, pair[0]), b, bitsOf(b, pair[1]), VOID);
        }
    }

    /** Pairs beside the void ones: worked as the language does. */
    private static void dueReals(int how, double[][] pairs) {
        for (double[] pair : pairs) {
            dueWorked("work(" + how + ") of " + pair[0] + ", " + pair[1], how, DOUBLE, bits(pair[0]), DOUBLE, bits(pair[1]), DOUBLE,
                bits(worked(how, pair[0], pair[1])));
            float a = (float) pair[0], b = (float) pair[1];
            if (a != pair[0] || b != pair[1]) continue;
            dueWorked("work(" + how + ") of floats " + a + ", " + b, how, FLOAT, bits(a), FLOAT, bits(b), DOUBLE, bits(worked(how, a, b)));
        }
    }

    private static void strips() {
        sentence("STRIPS, 8 at most", () -> {
            OrreryWorks x = new OrreryWorks();
            for (int i = 0; i < 8; i++) due("strip " + i, x.strip(i % 4, i), i);
            due("the ninth", x.strip(INT, 0), FULL);
            x.tear(0);
            due("the ninth, with one GONE", x.strip(DOUBLE, 16), FULL);
            due("eight", x.count(2), 8);
            due("the eighth is there", x.tear(7), 1);
            due("there is no ninth", x.tear(8), BAD);
        });
        sentence("are rows of a KIND (that is their LANE) with 0 to 16 PLACES", () -> {
            for (int lane = INT; lane <= DOUBLE; lane++) {
                OrreryWorks x = withRegisters(INT);
                for (int n : new int[] {-1, 17, Integer.MIN_VALUE, Integer.MAX_VALUE}) due(n + " places", x.strip(lane, n), BAD);
                due("no places", x.strip(lane, 0), 0);
                due("one place", x.strip(lane, 1), 1);
                due("sixteen places", x.strip(lane, 16), 2);
                due("place 0 of none", x.keep(0, lane, 0, 0), INDEX);
                due("place 0 of one", x.keep(1, lane, 0, 0), 1);
                due("place 1 of one", x.keep(1, lane, 1, 0), INDEX);
                due("place 15", x.keep(2, lane, 15, 0), 1);
                due("place 16", x.keep(2, lane, 16, 0), INDEX);
                due("place -1", x.keep(2, lane, -1, 0), INDEX);
            }
        });
        sentence("all 0 at first,", () -> {
            OrreryWorks x = withStrips(16, INT, LONG, FLOAT, DOUBLE);
            for (int lane = INT; lane <= DOUBLE; lane++) for (int i = 0; i < 16; i++) dueNumber(x, "place " + i + " of " + lane, x.kept(lane, lane, i), 0);
        });
        sentence("or GONE.", () -> {
            OrreryWorks x = withStrips(1, INT, LONG, FLOAT, DOUBLE);
            for (int lane = INT; lane <= DOUBLE; lane++) {
                x.tear(lane);
                dueNothing(x, "GONE " + lane, x.kept(lane, lane, 0), NULL);
            }
        });
    }

    private static void pointers() {
        sentence("POINTERS, 12 at most, of a WHEEL", () -> {
            OrreryWorks x = withWheels(DOUBLE, 1.0);
            x.stand(OF_SHOWING, 1);
            for (int i = 0; i < 12; i++) due("pointer " + i, x.pointer(i % 4, 0), i);
            for (int sort = COARSE; sort <= LAMP; sort++) due("the thirteenth", x.pointer(sort, 0), FULL);
            due("twelve", x.count(3), 12);
            due("the twelfth is there", x.hang(0, 0, 11), 1);
            due("there is no thirteenth", x.hang(0, 0, 12), BAD);
        });
        sentence("0 COARSE shows its POSITION CAST to an int", () -> {
            dueShown(COARSE, 0.9999999999999999, 0);
            dueShown(COARSE, -0.9999999999999999, 0);
            dueShown(COARSE, 2147483647.5, Integer.MAX_VALUE);
            dueShown(COARSE, 2147483648.0, Integer.MAX_VALUE);
            dueShown(COARSE, -2147483648.5, Integer.MIN_VALUE);
            dueShown(COARSE, -1.0E300, Integer.MIN_VALUE);
        });
        sentence("1 FINE its POSITION as a double times 1000.0 (in doubles), CAST to a long", () -> {
            dueShown(FINE, 0.0009999999999999998, 0);
            dueShown(FINE, -0.001, -1);
            dueShown(FINE, 2147483.648, 2147483648L);
            dueShown(FINE, 9223372036854774.0, 9223372036854773760L);
            dueShown(FINE, 9223372036854776.0, Long.MAX_VALUE);
            dueShown(FINE, -9.3E15, Long.MIN_VALUE);
            dueShown(FINE, GREATEST, Long.MAX_VALUE);
            dueShown(FINE, -GREATEST, Long.MIN_VALUE);
            OrreryWorks x = withWheels(FLOAT, ENDLESS);
            x.pointer(FINE, 0);
            x.stand(OF_FINE, 1);
            x.set(0, 0, 0);
            x.turn(0, bits((double) 0.009f));
            dueNumber(x, "0.009f, which as a float would be 9", x.show(0, 0), (long) (0.009f * 1000.0));
            x.turn(0, bits((double) GREATEST_FLOAT));
            dueNumber(x, "the greatest float", x.show(0, 0), Long.MAX_VALUE);
        });
        sentence("2 a VERNIER, which is FINE, too: what FINE shows, CAST to a float, as BITS", () -> {
            dueShown(VERNIER, 16777.2175, bits(16777216.0f));
            dueShown(VERNIER, 16777.2195, bits(16777220.0f));
            dueShown(VERNIER, -0.0004, 0);
            dueShown(VERNIER, -0.0019, bits(-1.0f));
            dueShown(VERNIER, GREATEST, bits(0x1p63f));
            dueShown(VERNIER, -GREATEST, bits(-0x1p63f));
            OrreryWorks x = withPosition(-1.5);
            due("on a stand of FINE ones", x.set(OF_FINE, 0, VERNIER), 1);
            due("below 0 as an int", x.show(OF_FINE, 0), bits(-1500.0f));
        });
        sentence("3 a LAMP, which is none of these", () -> {
            OrreryWorks x = withPosition(-1.5);
            for (int stand = OF_HANDS; stand <= OF_VERNIERS; stand++) due("on stand " + stand, x.hang(stand, 0, LAMP), STORE);
            due("as a HAND", x.set(OF_HANDS, 0, LAMP), CAST);
        });
        sentence("1, if its POSITION is below 0.0", () -> {
            dueShown(LAMP, -LEAST, 1);
            dueShown(LAMP, -GREATEST, 1);
            dueShown(LAMP, -1.0, 1);
        });
        sentence("or 0.0 with that sign (1.0 by it is below 0.0)", () -> {
            for (int kind = FLOAT; kind <= DOUBLE; kind++) {
                OrreryWorks x = withWheels(kind, 2.0);
                x.pointer(LAMP, 0);
                x.stand(OF_SHOWING, 1);
                x.hang(0, 0, 0);
                x.turn(0, bits(-4.0));
                dueNumber(x, "-0.0", x.show(0, 0), 1);
                x.turn(0, bits(-0.0));
                dueNumber(x, "-0.0 still", x.show(0, 0), 1);
                x.turn(0, bits(0.0));
                dueNumber(x, "0.0 again", x.show(0, 0), 0);
            }
        });
        sentence("else 0.", () -> {
            dueShown(LAMP, 0.0, 0);
            dueShown(LAMP, LEAST, 0);
            dueShown(LAMP, GREATEST, 0);
        });
        sentence("COARSE, FINE, VERNIER are HANDS; all four are SHOWING.", () -> {
            OrreryWorks x = withPosition(1.5);
            for (int sort = COARSE; sort <= VERNIER; sort++) due("as a HAND " + sort, x.set(OF_HANDS, 0, sort), 1);
            due("a LAMP as a HAND", x.set(OF_HANDS, 0, LAMP), CAST);
            for (int sort = COARSE; sort <= LAMP; sort++) due("SHOWING " + sort, x.hang(OF_SHOWING, 0, sort), 1);
        });
    }

    private static void dueShown(int sort, double position, long want) {
        OrreryWorks x = withPosition(position);
        dueNumber(x, position + " shown by sort " + sort, shown(x, sort), want);
    }

    private static void stands() {
        sentence("STANDS, 8 at most", () -> {
            OrreryWorks x = new OrreryWorks();
            for (int i = 0; i < 8; i++) due("stand " + i, x.stand(i % 4, 1), i);
            for (int sort = OF_HANDS; sort <= OF_SHOWING; sort++) due("the ninth", x.stand(sort, 1), FULL);
            due("eight", x.count(4), 8);
            due("the eighth is there", x.hang(7, 0, NONE), 1);
            due("there is no ninth", x.hang(8, 0, NONE), BAD);
        });
        sentence("are rows of 1 to 6 PLACES", () -> {
            for (int sort = OF_HANDS; sort <= OF_SHOWING; sort++) {
                OrreryWorks x = new OrreryWorks();
                for (int n : new int[] {0, -1, 7, Integer.MIN_VALUE, Integer.MAX_VALUE}) due(n + " places", x.stand(sort, n), BAD);
                due("one place", x.stand(sort, 1), 0);
                due("six places", x.stand(sort, 6), 1);
                due("place 0 of one", x.hang(0, 0, NONE), 1);
                due("place 1 of one", x.hang(0, 1, NONE), INDEX);
                due("place 5 of six", x.hang(1, 5, NONE), 1);
                due("place 6 of six", x.hang(1, 6, NONE), INDEX);
                due("place -1", x.hang(1, -1, NONE), INDEX);
            }
        });
        sentence("0 of HANDS, 1 of FINE ones, 2 of VERNIERS, 3 of what is SHOWING", () -> {
            int[][] dues = {{1, 1, 1, STORE}, {STORE, 1, 1, STORE}, {STORE, STORE, 1, STORE}, {1, 1, 1, 1}};
            OrreryWorks x = withPosition(1.5);
            for (int stand = OF_HANDS; stand <= OF_SHOWING; stand++) for (int sort = COARSE; sort <= LAMP; sort++) {
                due("pointer " + sort + " on stand " + stand, x.hang(stand, 0, sort), dues[stand][sort]);
            }
            due("sort -1", x.stand(-1, 1), BAD);
            due("sort 4", x.stand(4, 1), BAD);
        });
        sentence("bare at first.", () -> {
            for (int sort = OF_HANDS; sort <= OF_SHOWING; sort++) {
                OrreryWorks x = withWheels(DOUBLE, 1.0);
                x.pointer(VERNIER, 0);
                x.stand(sort, 6);
                for (int i = 0; i < 6; i++) dueNothing(x, "place " + i, x.show(0, i), NULL);
                dueNumber(x, "all", x.all(0), 0);
            }
        });
        sentence("(1, 2 go as rows of HANDS, too; 3 does not;", () -> {
            OrreryWorks x = withPosition(1.5);
            for (int stand = OF_HANDS; stand <= OF_VERNIERS; stand++) {
                due("a VERNIER set on " + stand, x.set(stand, 0, VERNIER), 1);
                due("nothing set on " + stand, x.set(stand, 0, NONE), 1);
            }
            for (int sort = COARSE; sort <= VERNIER; sort++) due("set on 3", x.set(OF_SHOWING, 0, sort), CAST);
            due("nothing set on 3", x.set(OF_SHOWING, 0, NONE), CAST);
        });
        sentence("all go as rows of what is SHOWING.)", () -> {
            OrreryWorks x = withPosition(1.5);
            for (int stand = OF_HANDS; stand <= OF_SHOWING; stand++) {
                due("a VERNIER hung on " + stand, x.hang(stand, 1, VERNIER), 1);
                due("nothing hung on " + stand, x.hang(stand, 1, NONE), 1);
            }
        });
    }
}
