/** Each promise of the document by hand: ordinary inputs, the edges that it names, and wrong inputs. */
public final class Promises extends Sentences {
    public static void main(String[] args) {
        sentence("Promise 1: A new object", Promises::newObject);
        sentence("Promise 2: wheel", Promises::wheel);
        sentence("Promise 3: turn", Promises::turn);
        sentence("Promise 3: turn, of floats", Promises::turnOfFloats);
        sentence("Promise 4: wheelOf", Promises::wheelOf);
        sentence("Promise 5: register", Promises::register);
        sentence("Promise 6: load", Promises::load);
        sentence("Promise 7: read", Promises::read);
        sentence("Promise 8: move", Promises::move);
        sentence("Promise 9: take", Promises::take);
        sentence("Promise 10: work, of ints and longs", Promises::workOfWholes);
        sentence("Promise 10: work, of floats and doubles", Promises::workOfReals);
        sentence("Promise 10: work, VOID", Promises::workIsVoid);
        sentence("Promise 11: strip", Promises::strip);
        sentence("Promise 12: tear", Promises::tear);
        sentence("Promise 13: keep", Promises::keep);
        sentence("Promise 14: kept", Promises::kept);
        sentence("Promise 15: rests", Promises::rests);
        sentence("Promise 16: pointer", Promises::pointer);
        sentence("Promise 17: stand", Promises::stand);
        sentence("Promise 18: set", Promises::set);
        sentence("Promise 19: hang", Promises::hang);
        sentence("Promise 20: show", Promises::show);
        sentence("Promise 21: all", Promises::all);
        sentence("Promise 22: count", Promises::count);
        sentence("Promise 23: often", Promises::often);
        sentence("Promise 24: refused", Promises::refused);
        end();
    }

    private static OrreryWorks withWheels(double... turns) {
        return withWheels(DOUBLE, turns);
    }

    private static void newObject() {
        OrreryWorks x = new OrreryWorks();
        for (int what = 0; what < 5; what++) due("1: count(" + what + ")", x.count(what), 0);
        for (int why = NULL; why <= BAD; why++) due("1: often(" + why + ")", x.often(why), 0);
        due("1: refused()", x.refused(), 0);
        int[] constants = {NONE, BAD, FULL, SPUN, VOID, ZERO, CAST, INDEX, STORE, NULL};
        for (int i = 0; i < constants.length; i++) due("1: constant " + i, constants[i], -1 - i);
        due("1: turn(0, 0)", x.turn(0, 0), 0);
        due("1: no wheel", x.refused(), BAD);
        due("1: no register", x.load(0, 0, 0), BAD);
        due("1: no strip", x.tear(0), BAD);
        due("1: no pointer", x.pointer(0, 0), BAD);
        due("1: no stand", x.set(0, 0, NONE), BAD);
        due("1: objects share nothing", withWheels(1.0).count(0) + x.count(0), 1);
    }

    private static void wheel() {
        OrreryWorks x = new OrreryWorks();
        due("2: kind 1", x.wheel(LONG, bits(1.0)), BAD);
        due("2: kind 4", x.wheel(4, bits(1.0)), BAD);
        due("2: kind -1", x.wheel(-1, bits(1.0)), BAD);
        due("2: no number", x.wheel(DOUBLE, bits(Double.NaN)), BAD);
        due("2: no number, with a sign", x.wheel(FLOAT, 0xFFF0000000000001L), BAD);
        due("2: 0.0", x.wheel(DOUBLE, bits(0.0)), BAD);
        due("2: -0.0", x.wheel(DOUBLE, bits(-0.0)), BAD);
        due("2: 0 as a float", x.wheel(FLOAT, bits(1.0E-46)), BAD);
        due("2: nothing was made", x.count(0), 0);
        due("2: least double", x.wheel(DOUBLE, 1L), 0);
        due("2: least float", x.wheel(FLOAT, bits(1.0E-45)), 1);
        due("2: it is a float", x.wheelOf(1, 1), 1);
        due("2: endless float of a double", x.wheel(FLOAT, bits(-1.0E39)), 2);
        due("2: it is endless", x.wheelOf(2, 1), bits(Float.NEGATIVE_INFINITY));
        for (int i = 3; i < 10; i++) due("2: number", x.wheel(DOUBLE, bits(-ENDLESS)), i);
        due("2: a tenth and no more", x.wheel(DOUBLE, bits(1.0)), FULL);
        due("2: BAD before FULL", x.wheel(DOUBLE, bits(0.0)), BAD);
        due("2: still ten", x.count(0), 10);
        dueNothing(x, "2: no eleventh", x.wheelOf(10, 0), BAD);
        due("2: FULL once", x.often(FULL), 1);
    }

    private static void turn() {
        OrreryWorks x = withWheels(3.5, -3.0, ENDLESS, 1.0E-300, 0.1);
        due("3: turns", x.turn(0, bits(8.0)), 2);
        due("3: rest", x.wheelOf(0, 0), bits(1.0));
        due("3: back", x.turn(0, bits(-8.0)), -2);
        due("3: rest below 0", x.wheelOf(0, 0), bits(-0.0));
        due("3: turns are SUM by TURN, not by alone", x.turn(0, bits(3.0)), 0);
        due("3: .. the rest of both", x.turn(0, bits(0.5)), 1);
        due("3: a turn below 0", x.turn(1, bits(10.0)), -3);
        due("3: sign of SUM", x.wheelOf(1, 0), bits(1.0));
        due("3: sign of SUM below 0", x.turn(1, bits(-11.0)), 3);
        due("3: .. its rest", x.wheelOf(1, 0), bits(-1.0));
        due("3: endless turn", x.turn(2, bits(Double.MAX_VALUE)), 0);
        due("3: .. all is rest", x.wheelOf(2, 0), bits(Double.MAX_VALUE));
        dueNothing(x, "3: SUM endless", x.turn(2, bits(Double.MAX_VALUE)), SPUN);
        due("3: .. all stays", x.wheelOf(2, 0), bits(Double.MAX_VALUE));
        dueNothing(x, "3: by endless", x.turn(0, bits(ENDLESS)), SPUN);
        dueNothing(x, "3: by endless below", x.turn(0, bits(-ENDLESS)), SPUN);
        due("3: SPUN is counted", x.often(SPUN), 3);
        due("3: an endless quotient", x.turn(3, bits(-1.0E300)), Integer.MIN_VALUE);
        due("3: .. is no refusal", x.refused(), 0);
        due("3: .. rest", x.wheelOf(3, 0), bits(-1.0E300 % 1.0E-300));
        due("3: the quotient is rounded, the rest is not", x.turn(4, bits(1.0)), 10);
        due("3: .. rest", x.wheelOf(4, 0), bits(1.0 % 0.1));
        dueNothing(x, "3: no number", x.turn(0, bits(Double.NaN)), BAD);
        dueNothing(x, "3: wheel -1", x.turn(-1, 0), BAD);
        dueNothing(x, "3: wheel 5", x.turn(5, 0), BAD);
    }

    private static void turnOfFloats() {
        OrreryWorks x = new OrreryWorks();
        x.wheel(FLOAT, bits(0.1));
        x.wheel(FLOAT, bits(ENDLESS));
        float turn = (float) 0.1;
        due("3: floats: by is cast", x.turn(0, bits(0.3)), (int) ((float) 0.3 / turn));
        due("3: floats: rest", x.wheelOf(0, 0), bits((float) 0.3 % turn));
        x.turn(1, bits(16777216.0));
        x.turn(1, bits(1.0));
        due("3: floats: the sum is one", x.wheelOf(1, 0), bits(16777216.0f));
        dueNothing(x, "3: floats: endless when cast", x.turn(1, bits(1.0E39)), SPUN);
        x.turn(1, bits((double) Float.MAX_VALUE));
        dueNothing(x, "3: floats: endless sum", x.turn(1, bits((double) Float.MAX_VALUE)), SPUN);
        x.wheel(FLOAT, bits(1.0E-45));
        due("3: floats: a quotient beyond the floats", x.turn(2, bits(1.0E38)), Integer.MAX_VALUE);
        due("3: floats: .. is no refusal", x.refused(), 0);
    }

    private static void wheelOf() {
        OrreryWorks x = withWheels(-2.5);
        x.wheel(FLOAT, bits(-2.5));
        due("4: position at first", x.wheelOf(0, 0), 0);
        due("4: turn", x.wheelOf(0, 1), bits(-2.5));
        due("4: turn of floats, as an int", x.wheelOf(1, 1), bits(-2.5f));
        x.turn(1, bits(-1.0));
        due("4: position", x.wheelOf(1, 0), bits(-1.0f));
        dueNothing(x, "4: what = 2", x.wheelOf(0, 2), BAD);
        dueNothing(x, "4: what = -1", x.wheelOf(0, -1), BAD);
        dueNothing(x, "4: wheel 2", x.wheelOf(2, 0), BAD);
        dueNothing(x, "4: wheel -1", x.wheelOf(-1, 0), BAD);
    }

    private static void register() {
        OrreryWorks x = new OrreryWorks();
        due("5: kind -1", x.register(-1), BAD);
        due("5: kind 4", x.register(4), BAD);
        for (int i = 0; i < 16; i++) due("5: number", x.register(i % 4), i);
        due("5: no more", x.register(0), FULL);
        due("5: BAD before FULL", x.register(4), BAD);
        due("5: sixteen", x.count(1), 16);
        dueNothing(x, "5: no seventeenth", x.read(16, 0), BAD);
        for (int i = 0; i < 16; i++) due("5: 0 at first", x.read(i, i % 4), 0);
        due("5: their kinds", x.load(12, DOUBLE, bits(1.5)) + x.load(15, DOUBLE, bits(1.5)), 2);
        due("5: an int", x.read(12, DOUBLE), bits(1.0));
        due("5: a double", x.read(15, DOUBLE), bits(1.5));
    }

    private static void load() {
        OrreryWorks x = withRegisters(INT, LONG, FLOAT, DOUBLE);
        due("6: int by the lowest 32", x.load(1, INT, 0x1_8000_0000L), 1);
        due("6: .. with their sign", x.read(1, LONG), -2147483648L);
        due("6: float by the lowest 32", x.load(3, FLOAT, 0x7_3F80_0000L), 1);
        due("6: .. is 1", x.read(3, DOUBLE), bits(1.0));
        due("6: float bits below 0", x.load(3, FLOAT, bits(-1.5f)), 1);
        due("6: .. is -1.5", x.read(3, DOUBLE), bits(-1.5));
        due("6: long into an int is cut", x.load(0, LONG, 0x1_0000_0005L), 1);
        due("6: .. is 5", x.read(0, INT), 5);
        due("6: double into an int stops", x.load(0, DOUBLE, bits(-1.0E20)), 1);
        due("6: .. at the least", x.read(0, INT), Integer.MIN_VALUE);
        due("6: endless into a long", x.load(1, DOUBLE, bits(ENDLESS)), 1);
        due("6: .. the greatest", x.read(1, LONG), Long.MAX_VALUE);
        long twiceRounded = 0x8000_0080_0000_01L << 8 >>> 1;
        due("6: long into a float is rounded once", x.load(2, LONG, twiceRounded), 1);
        due("6: .. as the language does", x.read(2, FLOAT), bits((float) twiceRounded));
        due("6: double into a float, endless", x.load(2, DOUBLE, bits(-3.5E38)), 1);
        due("6: .. is endless", x.read(2, FLOAT), bits(Float.NEGATIVE_INFINITY));
        due("6: the least double", x.load(3, DOUBLE, 0x8000_0000_0000_0001L), 1);
        due("6: .. stays", x.read(3, DOUBLE), 0x8000_0000_0000_0001L);
        due("6: endless bits of a float", x.load(3, FLOAT, 0x7F80_0000L), 1);
        due("6: .. are endless", x.read(3, DOUBLE), bits(ENDLESS));
        due("6: bits 0 of a float", x.load(3, FLOAT, 0x1_0000_0000L), 1);
        due("6: .. are 0.0", x.read(3, DOUBLE), 0);
        x.load(3, DOUBLE, bits(ENDLESS));
        due("6: no float", x.load(3, FLOAT, 0xFF80_0001L), BAD);
        due("6: no double", x.load(3, DOUBLE, 0x7FF8_0000_0000_0000L), BAD);
        due("6: no double, least", x.load(0, DOUBLE, 0x7FF0_0000_0000_0001L), BAD);
        due("6: .. changes nothing", x.read(3, DOUBLE), bits(ENDLESS));
        due("6: these bits as a long are fine", x.load(1, LONG, 0x7FF8_0000_0000_0000L), 1);
        due("6: kind 4", x.load(0, 4, 0), BAD);
        due("6: kind -1", x.load(0, -1, 0), BAD);
        due("6: register 4", x.load(4, INT, 0), BAD);
        due("6: register -1", x.load(-1, INT, 0), BAD);
    }

    private static void read() {
        OrreryWorks x = withRegisters(INT, LONG, FLOAT, DOUBLE);
        x.load(3, DOUBLE, bits(2147483648.5));
        due("7: double as int", x.read(3, INT), 2147483647);
        due("7: double as long", x.read(3, LONG), 2147483648L);
        due("7: double as float", x.read(3, FLOAT), bits(2147483648.0f));
        due("7: double as it is", x.read(3, DOUBLE), bits(2147483648.5));
        x.load(1, LONG, 0x7FFF_FFFF_FFFFL);
        due("7: long as int is cut", x.read(1, INT), -1);
        x.load(0, INT, 16777217);
        due("7: int as float", x.read(0, FLOAT), bits(16777216.0f));
        due("7: int as double", x.read(0, DOUBLE), bits(16777217.0));
        x.load(2, FLOAT, bits(-0.0f));
        due("7: -0.0 as float", x.read(2, FLOAT), Integer.MIN_VALUE);
        due("7: -0.0 as double", x.read(2, DOUBLE), Long.MIN_VALUE);
        due("7: -0.0 as long", x.read(2, LONG), 0);
        x.load(3, DOUBLE, bits(-2.9));
        due("7: cut towards 0", x.read(3, INT), -2);
        x.load(3, DOUBLE, bits(1.0E-40));
        due("7: a float without leading digit", x.read(3, FLOAT), bits(1.0E-40f));
        dueNothing(x, "7: kind 4", x.read(0, 4), BAD);
        dueNothing(x, "7: kind -1", x.read(0, -1), BAD);
        dueNothing(x, "7: register 4", x.read(4, 0), BAD);
        dueNothing(x, "7: register -1", x.read(-1, 0), BAD);
    }

    private static void move() {
        OrreryWorks x = withRegisters(INT, LONG, FLOAT, DOUBLE);
        x.load(3, DOUBLE, bits(-0.0));
        due("8: -0.0 to an int and back has other bits", x.move(3, 0), 0);
        due("8: -0.0 to a float and back", x.move(3, 2), 1);
        x.load(0, INT, Integer.MAX_VALUE);
        due("8: int to float, back stops at it", x.move(0, 2), 1);
        due("8: .. moved", x.read(2, FLOAT), bits(2147483648.0f));
        x.load(0, INT, 16777217);
        due("8: int to float", x.move(0, 2), 0);
        due("8: .. moved all the same", x.read(2, LONG), 16777216);
        due("8: int to double", x.move(0, 3), 1);
        due("8: to itself", x.move(0, 0), 1);
        due("8: the other one stays", x.read(0, INT), 16777217);
        x.load(3, DOUBLE, bits(ENDLESS));
        due("8: endless to float", x.move(3, 2), 1);
        due("8: endless to long", x.move(3, 1), 0);
        due("8: register 4", x.move(4, 0), BAD);
        due("8: to register 4", x.move(0, 4), BAD);
        due("8: to register -1", x.move(0, -1), BAD);
        due("8: register -1", x.move(-1, 0), BAD);
    }

    private static void take() {
        OrreryWorks x = withRegisters(INT, LONG, FLOAT, DOUBLE);
        x.wheel(DOUBLE, bits(ENDLESS));
        x.wheel(FLOAT, bits(1.0));
        x.turn(0, bits(-1.0E10 - 0.3));
        x.turn(1, bits(0.7));
        due("9: to an int", x.take(0, 0), 1);
        due("9: .. stops", x.read(0, INT), Integer.MIN_VALUE);
        due("9: to a long", x.take(0, 1), 1);
        due("9: .. cut", x.read(1, LONG), -10000000000L);
        due("9: to a float", x.take(0, 2), 1);
        due("9: .. rounded", x.read(2, FLOAT), bits((float) (-1.0E10 - 0.3)));
        due("9: of floats", x.take(1, 3), 1);
        due("9: .. as it is", x.read(3, DOUBLE), bits((double) 0.7f));
        due("9: the wheel stays", x.wheelOf(1, 0), bits(0.7f));
        due("9: wheel 2", x.take(2, 0), BAD);
        due("9: wheel -1", x.take(-1, 0), BAD);
        due("9: register 4", x.take(0, 4), BAD);
        due("9: register -1", x.take(0, -1), BAD);
    }

    private static long workedLongs(int what, int kindA, long a, int kindB, long b, int kindTo) {
        OrreryWorks x = withRegisters(kindA, kindB, kindTo);
        x.load(0, LONG, a);
        x.load(1, LONG, b);
        due("10: work(" + what + ") of " + a + ", " + b, x.work(what, 0, 1, 2), 1);
        return x.read(2, kindTo);
    }

    private static void workOfWholes() {
        due("10: 7 + -3", workedLongs(0, INT, 7, INT, -3, LONG), 4);
        due("10: ints wrap", workedLongs(0, INT, Integer.MAX_VALUE, INT, 1, LONG), Integer.MIN_VALUE);
        due("10: an int and a long do not", workedLongs(0, INT, Integer.MAX_VALUE, LONG, 1, LONG), 2147483648L);
        due("10: longs wrap", workedLongs(1, LONG, Long.MIN_VALUE, LONG, 1, LONG), Long.MAX_VALUE);
        due("10: less, in its order", workedLongs(1, INT, 3, INT, 10, INT), -7);
        due("10: ints times", workedLongs(2, INT, 65537, INT, 65537, LONG), 65537 * 65537);
        due("10: longs times, into an int", workedLongs(2, LONG, 1L << 20, LONG, (1L << 20) + 1, INT), 1 << 20);
        due("10: by 1", workedLongs(3, INT, 9, LONG, 1, INT), 9);
        due("10: the rest by 1", workedLongs(4, LONG, 9, LONG, 1, DOUBLE), 0);
        due("10: by is cut towards 0", workedLongs(3, INT, -7, INT, 2, INT), -3);
        due("10: the rest has the first one's sign", workedLongs(4, INT, -7, INT, 2, INT), -1);
        due("10: .. not the second one's", workedLongs(4, INT, 7, INT, -2, INT), 1);
        due("10: the least int by -1 wraps", workedLongs(3, INT, Integer.MIN_VALUE, INT, -1, LONG), Integer.MIN_VALUE);
        due("10: the least long by -1 wraps", workedLongs(3, LONG, Long.MIN_VALUE, INT, -1, LONG), Long.MIN_VALUE);
        due("10: .. its rest", workedLongs(4, LONG, Long.MIN_VALUE, LONG, -1, LONG), 0);
        due("10: cast to the third", workedLongs(3, INT, 7, INT, 2, DOUBLE), bits(3.0));
        OrreryWorks x = withRegisters(INT, INT, LONG, FLOAT);
        x.load(0, INT, 5);
        due("10: by 0", x.work(3, 0, 1, 0), ZERO);
        due("10: the rest by 0", x.work(4, 0, 2, 0), ZERO);
        due("10: .. changes nothing", x.read(0, INT), 5);
        due("10: a float's 0 is not ZERO", x.work(3, 0, 3, 3), 1);
        due("10: .. but endless", x.read(3, FLOAT), bits(Float.POSITIVE_INFINITY));
        due("10: ZERO is counted", x.often(ZERO), 2);
        due("10: what = 5", x.work(5, 0, 0, 0), BAD);
        due("10: what = -1", x.work(-1, 0, 0, 0), BAD);
        due("10: BAD before ZERO", x.work(3, 0, 1, 4), BAD);
        due("10: register -1", x.work(0, -1, 0, 0), BAD);
        due("10: register 4", x.work(0, 0, 4, 0), BAD);
        due("10: into itself", x.work(0, 0, 0, 0), 1);
        due("10: .. twice 5", x.read(0, INT), 10);
    }

    private static long workedReals(int what, int kindA, double a, int kindB, double b, int kindTo) {
        OrreryWorks x = withRegisters(kindA, kindB, kindTo);
        x.load(0, DOUBLE, bits(a));
        x.load(1, DOUBLE, bits(b));
        due("10: work(" + what + ") of " + a + ", " + b, x.work(what, 0, 1, 2), 1);
        return x.read(2, kindTo);
    }

    private static void workOfReals() {
        due("10: 0.1 + 0.2", workedReals(0, DOUBLE, 0.1, DOUBLE, 0.2, DOUBLE), bits(0.1 + 0.2));
        due("10: floats", workedReals(0, FLOAT, 0.1, FLOAT, 0.2, DOUBLE), bits((double) (0.1f + 0.2f)));
        due("10: a float and a double", workedReals(1, FLOAT, 0.1, DOUBLE, 0.2, DOUBLE), bits(0.1f - 0.2));
        due("10: a long and a float go as floats", workedReals(0, LONG, 16777217, FLOAT, 0.0, DOUBLE), bits(16777216.0));
        due("10: an int and a float", workedReals(2, FLOAT, 0.1, INT, 3, DOUBLE), bits((double) (0.1f * 3)));
        due("10: floats less", workedReals(1, FLOAT, 0.3, FLOAT, 0.1, DOUBLE), bits((double) (0.3f - 0.1f)));
        due("10: 0 times one that ends", workedReals(2, DOUBLE, 0.0, DOUBLE, -2, DOUBLE), bits(-0.0));
        due("10: floats by", workedReals(3, FLOAT, 1, FLOAT, 3, DOUBLE), bits((double) (1.0f / 3.0f)));
        due("10: doubles by, into an int", workedReals(3, DOUBLE, 1.0E10, DOUBLE, -1, INT), Integer.MIN_VALUE);
        due("10: the rest of doubles", workedReals(4, DOUBLE, 1.0E300, DOUBLE, 0.7, DOUBLE), bits(1.0E300 % 0.7));
        due("10: the rest by the least", workedReals(4, DOUBLE, -Double.MAX_VALUE, DOUBLE, 3 * Double.MIN_VALUE, DOUBLE), bits(-Double.MAX_VALUE % (3 * Double.MIN_VALUE)));
        due("10: the rest by the very least", workedReals(4, DOUBLE, 5, DOUBLE, Double.MIN_VALUE, DOUBLE), 0);
        due("10: the rest of floats", workedReals(4, FLOAT, -12.3, FLOAT, 0.1, FLOAT), bits(-12.3f % 0.1f));
        due("10: the rest of nothing left", workedReals(4, DOUBLE, -6, DOUBLE, 3, DOUBLE), bits(-0.0));
        due("10: the rest by an endless one", workedReals(4, DOUBLE, -6, DOUBLE, ENDLESS, DOUBLE), bits(-6.0));
        due("10: the rest of 0", workedReals(4, DOUBLE, -0.0, DOUBLE, 3, DOUBLE), bits(-0.0));
        due("10: the rest by itself", workedReals(4, DOUBLE, 3, DOUBLE, -3, DOUBLE), bits(0.0));
        due("10: endless and endless", workedReals(0, DOUBLE, ENDLESS, DOUBLE, ENDLESS, DOUBLE), bits(ENDLESS));
        due("10: endless less -endless", workedReals(1, FLOAT, ENDLESS, DOUBLE, -ENDLESS, FLOAT), bits(Float.POSITIVE_INFINITY));
        due("10: endless times", workedReals(2, DOUBLE, ENDLESS, DOUBLE, -2, LONG), Long.MIN_VALUE);
        due("10: by 0", workedReals(3, DOUBLE, 1, DOUBLE, -0.0, DOUBLE), bits(-ENDLESS));
        due("10: 0 by endless", workedReals(3, DOUBLE, 0, DOUBLE, -ENDLESS, DOUBLE), bits(-0.0));
        due("10: endless by 0", workedReals(3, DOUBLE, ENDLESS, DOUBLE, 0.0, DOUBLE), bits(ENDLESS));
        due("10: floats become endless", workedReals(2, FLOAT, 1.0E38, FLOAT, 10, DOUBLE), bits(ENDLESS));
        due("10: -0.0 plus -0.0", workedReals(0, DOUBLE, -0.0, DOUBLE, -0.0, DOUBLE), bits(-0.0));
        due("10: -0.0 less 0.0", workedReals(1, DOUBLE, -0.0, FLOAT, 0.0, DOUBLE), bits(-0.0));
    }

    private static void workIsVoid() {
        double[][] voids = {
            {0, ENDLESS, -ENDLESS}, {0, -ENDLESS, ENDLESS}, {1, ENDLESS, ENDLESS}, {1, -ENDLESS, -ENDLESS},
            {2, 0.0, ENDLESS}, {2, -ENDLESS, -0.0}, {3, 0.0, -0.0}, {3, ENDLESS, -ENDLESS}, {3, ENDLESS, ENDLESS},
            {4, 1.0, 0.0}, {4, 0.0, -0.0}, {4, ENDLESS, 1.0}, {4, -ENDLESS, ENDLESS}, {4, ENDLESS, 0.0}};
        for (int kind = FLOAT; kind <= DOUBLE; kind++) {
            OrreryWorks x = withRegisters(kind, kind, INT);
            x.load(2, INT, 9);
            int found = 0;
            for (double[] v : voids) {
                x.load(0, DOUBLE, bits(v[1]));
                x.load(1, DOUBLE, bits(v[2]));
                due("10: work(" + (int) v[0] + ") of " + v[1] + ", " + v[2], x.work((int) v[0], 0, 1, 2), VOID);
                due("10: .. is told", x.refused(), VOID);
                due("10: .. is counted", x.often(VOID), ++found);
            }
            due("10: VOID changes nothing", x.read(2, INT), 9);
            due("10: BAD before VOID", x.work(4, 0, 1, 3), BAD);
        }
    }

    private static void strip() {
        OrreryWorks x = new OrreryWorks();
        due("11: lane -1", x.strip(-1, 1), BAD);
        due("11: lane 4", x.strip(4, 1), BAD);
        due("11: -1 places", x.strip(0, -1), BAD);
        due("11: 17 places", x.strip(0, 17), BAD);
        for (int i = 0; i < 8; i++) due("11: number", x.strip(i % 4, i < 4 ? 16 : 0), i);
        due("11: no more", x.strip(0, 0), FULL);
        due("11: BAD before FULL", x.strip(0, 17), BAD);
        x.tear(0);
        due("11: GONE ones count", x.strip(0, 0), FULL);
        due("11: eight", x.count(2), 8);
        due("11: no ninth", x.tear(8), BAD);
        for (int lane = 1; lane < 4; lane++) due("11: 0 at first", x.kept(lane, lane, 15), 0);
        due("11: .. is no refusal", x.refused(), 0);
        dueNothing(x, "11: no place of none", x.kept(4, 0, 0), INDEX);
    }

    private static void tear() {
        OrreryWorks x = new OrreryWorks();
        x.strip(INT, 0);
        due("12: gone", x.tear(0), 1);
        due("12: it was", x.tear(0), 0);
        due("12: .. is no refusal", x.refused(), 0);
        due("12: strip 1", x.tear(1), BAD);
        due("12: strip -1", x.tear(-1), BAD);
        due("12: it counts", x.count(2), 1);
    }

    private static void keep() {
        OrreryWorks x = withRegisters(DOUBLE);
        for (int lane = 0; lane < 4; lane++) x.strip(lane, 2);
        x.load(0, DOUBLE, bits(-1.0E10 - 0.1));
        for (int lane = 0; lane < 4; lane++) due("13: keep", x.keep(lane, lane, 1, 0), 1);
        due("13: int", x.kept(0, INT, 1), Integer.MIN_VALUE);
        due("13: long", x.kept(1, LONG, 1), -10000000000L);
        due("13: float", x.kept(2, FLOAT, 1), bits(-1.0E10f));
        due("13: double", x.kept(3, DOUBLE, 1), bits(-1.0E10 - 0.1));
        due("13: its neighbour stays", x.kept(3, DOUBLE, 0), 0);
        due("13: place 2", x.keep(0, INT, 2, 0), INDEX);
        due("13: place -1", x.keep(0, INT, -1, 0), INDEX);
        due("13: another lane", x.keep(0, LONG, 0, 0), CAST);
        due("13: CAST before INDEX", x.keep(3, FLOAT, 2, 0), CAST);
        due("13: lane 4", x.keep(0, 4, 0, 0), BAD);
        due("13: lane -1", x.keep(0, -1, 0, 0), BAD);
        due("13: register 1", x.keep(0, INT, 0, 1), BAD);
        due("13: BAD before CAST", x.keep(0, LONG, 0, -1), BAD);
        due("13: strip 4", x.keep(4, INT, 0, 0), BAD);
        due("13: strip -1", x.keep(-1, INT, 0, 0), BAD);
        x.tear(0);
        due("13: GONE", x.keep(0, INT, 0, 0), NULL);
        due("13: GONE ones are of no lane", x.keep(0, FLOAT, 0, 0), NULL);
        due("13: NULL before INDEX", x.keep(0, INT, 9, 0), NULL);
        due("13: BAD before NULL", x.keep(0, 4, 0, 0), BAD);
        due("13: CAST is counted", x.often(CAST), 2);
        due("13: INDEX is counted", x.often(INDEX), 2);
        due("13: NULL is counted", x.often(NULL), 3);
    }

    private static void kept() {
        OrreryWorks x = withRegisters(DOUBLE);
        x.strip(FLOAT, 16);
        x.strip(LONG, 1);
        x.load(0, DOUBLE, bits(-0.1));
        x.keep(0, FLOAT, 15, 0);
        x.load(0, DOUBLE, bits(2.0));
        due("14: kept, as an int", x.kept(0, FLOAT, 15), bits(-0.1f));
        due("14: no refusal", x.refused(), 0);
        dueNothing(x, "14: place 16", x.kept(0, FLOAT, 16), INDEX);
        dueNothing(x, "14: place -1", x.kept(0, FLOAT, -1), INDEX);
        dueNothing(x, "14: another lane", x.kept(0, INT, 0), CAST);
        dueNothing(x, "14: CAST before INDEX", x.kept(1, DOUBLE, 1), CAST);
        dueNothing(x, "14: lane 4", x.kept(0, 4, 0), BAD);
        dueNothing(x, "14: lane -1", x.kept(0, -1, 0), BAD);
        dueNothing(x, "14: strip 2", x.kept(2, FLOAT, 0), BAD);
        dueNothing(x, "14: strip -1", x.kept(-1, FLOAT, 0), BAD);
        x.tear(0);
        dueNothing(x, "14: GONE", x.kept(0, FLOAT, 15), NULL);
        dueNothing(x, "14: GONE, another lane, no place", x.kept(0, LONG, 16), NULL);
        dueNothing(x, "14: BAD before NULL", x.kept(0, 4, 0), BAD);
    }

    private static void fill(OrreryWorks x, int strip, int lane, double... values) {
        for (int i = 0; i < values.length; i++) {
            x.load(0, DOUBLE, bits(values[i]));
            x.keep(strip, lane, i, 0);
        }
    }

    private static void rests() {
        OrreryWorks x = withRegisters(DOUBLE, INT);
        x.strip(DOUBLE, 6);
        x.strip(FLOAT, 4);
        x.strip(INT, 2);
        x.strip(LONG, 0);
        x.strip(DOUBLE, 0);
        x.strip(FLOAT, 1);
        x.strip(DOUBLE, 4);
        fill(x, 0, DOUBLE, 7.5, -2.0, ENDLESS, 4.0, 0.0, 3.0);
        due("15: 7.5 by -2, -2 by endless, 0 by 3", x.rests(0, 0), 3);
        due("15: added", x.read(0, DOUBLE), bits(1.5 - 2.0));
        due("15: cast", x.rests(0, 1), 3);
        due("15: .. to an int", x.read(1, INT), 0);
        fill(x, 1, FLOAT, 0.1, 16777216.0, 33554432.0, 3.0);
        due("15: floats", x.rests(1, 0), 3);
        due("15: .. are added as such", x.read(0, DOUBLE), bits((double) (0.1f + 16777216.0f + 33554432.0f % 3.0f)));
        fill(x, 6, DOUBLE, Double.MAX_VALUE, ENDLESS, Double.MAX_VALUE, -ENDLESS);
        due("15: endless places are gone by", x.rests(6, 0), 2);
        due("15: their sum may be endless", x.read(0, DOUBLE), bits(ENDLESS));
        due("15: no places", x.rests(4, 0), 0);
        due("15: .. 0.0", x.read(0, DOUBLE), 0);
        x.load(0, DOUBLE, bits(-4.0));
        x.keep(5, FLOAT, 0, 0);
        due("15: one place has no next", x.rests(5, 0), 0);
        due("15: .. 0.0", x.read(0, DOUBLE), 0);
        fill(x, 6, DOUBLE, -6.0, 3.0, 0.0, 0.0);
        due("15: from 0.0 on", x.rests(6, 0), 1);
        due("15: .. not from -0.0", x.read(0, DOUBLE), 0);
        x.load(0, INT, 7);
        due("15: ints", x.rests(2, 0), CAST);
        due("15: longs", x.rests(3, 0), CAST);
        x.tear(0);
        x.tear(2);
        due("15: GONE", x.rests(0, 0), NULL);
        due("15: GONE ones are of no lane", x.rests(2, 0), NULL);
        due("15: refusals change nothing", x.read(0, INT), 7);
        due("15: register 2", x.rests(2, 2), BAD);
        due("15: register -1", x.rests(1, -1), BAD);
        due("15: strip 7", x.rests(7, 0), BAD);
        due("15: strip -1", x.rests(-1, 0), BAD);
    }

    private static void pointer() {
        OrreryWorks x = withWheels(1.0);
        due("16: sort -1", x.pointer(-1, 0), BAD);
        due("16: sort 4", x.pointer(4, 0), BAD);
        due("16: wheel 1", x.pointer(0, 1), BAD);
        due("16: wheel -1", x.pointer(0, -1), BAD);
        for (int i = 0; i < 12; i++) due("16: number", x.pointer(i % 4, 0), i);
        due("16: no more", x.pointer(0, 0), FULL);
        due("16: BAD before FULL", x.pointer(4, 0), BAD);
        due("16: twelve", x.count(3), 12);
        x.stand(3, 1);
        due("16: no thirteenth", x.hang(0, 0, 12), BAD);
    }

    private static void stand() {
        OrreryWorks x = new OrreryWorks();
        due("17: sort -1", x.stand(-1, 1), BAD);
        due("17: sort 4", x.stand(4, 1), BAD);
        due("17: no places", x.stand(0, 0), BAD);
        due("17: -1 places", x.stand(0, -1), BAD);
        due("17: 7 places", x.stand(0, 7), BAD);
        for (int i = 0; i < 8; i++) due("17: number", x.stand(i % 4, i < 6 ? i + 1 : 6), i);
        due("17: no more", x.stand(0, 1), FULL);
        due("17: BAD before FULL", x.stand(0, 7), BAD);
        due("17: eight", x.count(4), 8);
        dueNothing(x, "17: no ninth", x.all(8), BAD);
        dueNothing(x, "17: bare at first", x.show(5, 5), NULL);
        dueNothing(x, "17: no seventh", x.show(5, 6), INDEX);
    }

    /** Pointers 0 to 3 and stands 0 to 3, with two places each, by their sorts. */
    private static OrreryWorks withStands() {
        OrreryWorks x = withWheels(100.0);
        x.turn(0, bits(-12.3456));
        for (int sort = 0; sort < 4; sort++) {
            x.pointer(sort, 0);
            x.stand(sort, 2);
        }
        return x;
    }

    private static void set() {
        OrreryWorks x = withStands();
        int[][] dues = {{1, 1, 1, CAST}, {STORE, 1, 1, CAST}, {STORE, STORE, 1, CAST}, {CAST, CAST, CAST, CAST}};
        for (int stand = 0; stand < 4; stand++) {
            for (int pointer = 0; pointer < 4; pointer++) {
                due("18: pointer " + pointer + " on " + stand, x.set(stand, 1, pointer), dues[stand][pointer]);
            }
        }
        due("18: the latest that went is there", x.show(0, 1), bits(-12345.0f));
        due("18: STORE is counted", x.often(STORE), 3);
        due("18: CAST is counted", x.often(CAST), 7);
        due("18: nothing", x.set(0, 1, NONE), 1);
        dueNothing(x, "18: .. is there", x.show(0, 1), NULL);
        due("18: nothing, on the narrowest", x.set(2, 0, NONE), 1);
        due("18: nothing, but no row of HANDS", x.set(3, 0, NONE), CAST);
        due("18: place 2", x.set(0, 2, 0), INDEX);
        due("18: place -1", x.set(0, -1, NONE), INDEX);
        due("18: INDEX before STORE", x.set(2, 2, 0), INDEX);
        due("18: CAST before INDEX", x.set(0, 2, 3), CAST);
        due("18: CAST of the stand before INDEX", x.set(3, 2, 0), CAST);
        due("18: pointer 4", x.set(3, 0, 4), BAD);
        due("18: pointer -2", x.set(0, 0, -2), BAD);
        due("18: stand 4", x.set(4, 0, 0), BAD);
        due("18: stand -1", x.set(-1, 0, 0), BAD);
        due("18: .. changed nothing", x.all(0), 0);
    }

    private static void hang() {
        OrreryWorks x = withStands();
        int[][] dues = {{1, 1, 1, STORE}, {STORE, 1, 1, STORE}, {STORE, STORE, 1, STORE}, {1, 1, 1, 1}};
        for (int stand = 0; stand < 4; stand++) {
            for (int pointer = 0; pointer < 4; pointer++) {
                due("19: pointer " + pointer + " on " + stand, x.hang(stand, 0, pointer), dues[stand][pointer]);
            }
        }
        due("19: it is there", x.show(3, 0), 1);
        due("19: nothing", x.hang(3, 0, NONE), 1);
        dueNothing(x, "19: .. is there", x.show(3, 0), NULL);
        due("19: nothing on a narrow one", x.hang(2, 0, NONE), 1);
        due("19: place 2", x.hang(3, 2, 0), INDEX);
        due("19: place -1", x.hang(3, -1, 0), INDEX);
        due("19: INDEX before STORE", x.hang(2, 2, 3), INDEX);
        due("19: pointer 4", x.hang(3, 0, 4), BAD);
        due("19: pointer -2", x.hang(3, 0, -2), BAD);
        due("19: stand 4", x.hang(4, 0, 0), BAD);
        due("19: stand -1", x.hang(-1, 0, NONE), BAD);
        due("19: STORE is counted", x.often(STORE), 6);
        due("19: no CAST", x.often(CAST), 0);
    }

    private static void shows(String what, OrreryWorks x, long coarse, long fine, long vernier, long lamp) {
        long[] dues = {coarse, fine, vernier, lamp};
        for (int sort = 0; sort < 4; sort++) {
            x.hang(3, 0, sort);
            due("20: " + what + ", sort " + sort, x.show(3, 0), dues[sort]);
            due("20: " + what + ", no refusal", x.refused(), 0);
        }
    }

    private static void show() {
        OrreryWorks x = withStands();
        shows("-12.3456", x, -12, -12345, bits(-12345.0f), 1);
        x.turn(0, bits(13.0));
        double position = Double.longBitsToDouble(x.wheelOf(0, 0));
        shows("0.65..", x, 0, (long) (position * 1000.0), bits((float) (long) (position * 1000.0)), 0);
        OrreryWorks y = withWheels(ENDLESS);
        for (int sort = 0; sort < 4; sort++) {
            y.pointer(sort, 0);
            y.stand(sort, 1);
        }
        shows("0.0", y, 0, 0, 0, 0);
        y.turn(0, bits(Double.MAX_VALUE));
        shows("the greatest", y, Integer.MAX_VALUE, Long.MAX_VALUE, bits((float) Long.MAX_VALUE), 0);
        y.turn(0, bits(-Double.MAX_VALUE));
        y.turn(0, bits(16777.219));
        shows("16777.219", y, 16777, 16777219, bits(16777220.0f), 0);
        y.turn(0, bits(-16777.219));
        y.turn(0, bits(-1.6777217));
        shows("-1.6777217", y, -1, -1677, bits(-1677.0f), 1);
        OrreryWorks z = withWheels(2.0);
        z.turn(0, bits(-4.0));
        for (int sort = 0; sort < 4; sort++) {
            z.pointer(sort, 0);
            z.stand(sort, 1);
        }
        shows("-0.0", z, 0, 0, 0, 1);
        OrreryWorks f = new OrreryWorks();
        f.wheel(FLOAT, bits(1.0));
        f.turn(0, bits(0.001));
        f.pointer(1, 0);
        f.stand(3, 1);
        f.hang(0, 0, 0);
        due("20: floats are multiplied as doubles", f.show(0, 0), (long) ((double) 0.001f * 1000.0));
        f.turn(0, bits(0.3));
        due("20: what it shows turns with the wheel", f.show(0, 0), (long) ((double) (0.001f + 0.3f) * 1000.0));
        dueNothing(x, "20: nothing there", x.show(0, 0), NULL);
        dueNothing(x, "20: place 2", x.show(0, 2), INDEX);
        dueNothing(x, "20: place -1", x.show(0, -1), INDEX);
        dueNothing(x, "20: stand 4", x.show(4, 0), BAD);
        dueNothing(x, "20: stand -1", x.show(-1, 0), BAD);
    }

    private static void all() {
        OrreryWorks x = withStands();
        due("21: bare", x.all(0), 0);
        due("21: .. is no refusal", x.refused(), 0);
        x.hang(3, 0, 1);
        x.hang(3, 1, 3);
        due("21: both", x.all(3), -12344);
        x.hang(3, 0, NONE);
        due("21: one is bare", x.all(3), 1);
        x.hang(0, 0, 2);
        x.hang(0, 1, 2);
        due("21: the same twice", x.all(0), 2 * bits(-12345.0f));
        dueNothing(x, "21: stand 4", x.all(4), BAD);
        dueNothing(x, "21: stand -1", x.all(-1), BAD);
        OrreryWorks y = withWheels(ENDLESS);
        y.turn(0, bits(1.0E300));
        y.pointer(1, 0);
        y.stand(1, 6);
        for (int i = 0; i < 6; i++) y.set(0, i, 0);
        due("21: longs wrap", y.all(0), -6);
    }

    private static void count() {
        OrreryWorks x = withWheels(1.0, 2.0, 3.0, 4.0, 5.0);
        for (int i = 0; i < 4; i++) x.register(i);
        for (int i = 0; i < 3; i++) x.strip(i, i);
        for (int i = 0; i < 2; i++) x.pointer(i, i);
        x.stand(0, 1);
        for (int what = 0; what < 5; what++) due("22: count(" + what + ")", x.count(what), 5 - what);
        due("22: what = 5", x.count(5), BAD);
        due("22: what = -1", x.count(-1), BAD);
        due("22: refused() is not of it", x.refused(), 0);
    }

    private static void often() {
        OrreryWorks x = withStands();
        for (int i = 0; i < 10; i++) x.wheel(DOUBLE, bits(1.0));
        due("23: FULL", x.often(FULL), 1);
        x.turn(0, bits(ENDLESS));
        x.turn(0, bits(ENDLESS));
        due("23: SPUN", x.often(SPUN), 2);
        x.show(0, 9);
        due("23: INDEX", x.often(INDEX), 1);
        x.show(0, 0);
        due("23: NULL", x.often(NULL), 1);
        x.show(9, 0);
        due("23: BAD is not counted", x.often(BAD), 0);
        due("23: NONE", x.often(NONE), 0);
        due("23: 0", x.often(0), 0);
        due("23: beyond NULL", x.often(-11), 0);
        due("23: far off", x.often(Integer.MIN_VALUE) + x.often(Integer.MAX_VALUE), 0);
        due("23: those that did not come", x.often(VOID) + x.often(ZERO) + x.often(CAST) + x.often(STORE), 0);
        due("23: asking does not count", x.often(SPUN), 2);
    }

    private static void refused() {
        OrreryWorks x = withStands();
        x.set(1, 0, 0);
        due("24: why", x.refused(), STORE);
        x.count(0);
        x.count(9);
        x.often(9);
        x.refused();
        due("24: the latest but these", x.refused(), STORE);
        x.wheelOf(0, 0);
        due("24: it was not", x.refused(), 0);
        x.wheelOf(9, 0);
        due("24: BAD is told", x.refused(), BAD);
        x.tear(0);
        due("24: BAD again", x.refused(), BAD);
        x.all(0);
        due("24: a call that answers 0 was not refused", x.refused(), 0);
        x.show(0, 0);
        due("24: a refused one that answers 0 was", x.refused(), NULL);
        for (int call = 0; call < 20; call++) {
            OrreryWorks y = withStands();
            y.register(DOUBLE);
            y.register(INT);
            y.load(0, INT, 1);
            y.strip(DOUBLE, 2);
            y.hang(3, 0, 3);
            y.tear(-1);
            due("24: BAD before call " + call, y.refused(), BAD);
            oneThatGoes(y, call);
            due("24: call " + call + " was not refused", y.refused(), 0);
        }
    }

    private static void oneThatGoes(OrreryWorks y, int call) {
        switch (call) {
            case 0: y.wheel(FLOAT, bits(1.0)); break;
            case 1: y.turn(0, bits(1.0)); break;
            case 2: y.wheelOf(0, 1); break;
            case 3: y.register(LONG); break;
            case 4: y.load(0, LONG, 1); break;
            case 5: y.read(0, LONG); break;
            case 6: y.move(0, 1); break;
            case 7: y.take(0, 1); break;
            case 8: y.work(3, 1, 0, 0); break;
            case 9: y.work(0, 1, 1, 0); break;
            case 10: y.strip(INT, 0); break;
            case 11: y.tear(0); break;
            case 12: y.keep(0, DOUBLE, 0, 0); break;
            case 13: y.kept(0, DOUBLE, 0); break;
            case 14: y.rests(0, 0); break;
            case 15: y.pointer(0, 0); break;
            case 16: y.stand(0, 1); break;
            case 17: y.set(0, 0, 0); break;
            case 18: y.hang(0, 0, 0); break;
            default: y.show(3, 0);
        }
    }
}
