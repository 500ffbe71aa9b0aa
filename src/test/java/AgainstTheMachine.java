import java.lang.reflect.Array;
import java.util.ArrayList;
import java.util.List;

/**
 * Long runs of calls, drawn by a fixed rule, on an object and on a model beside it. The model
 * lets the Java machine do what the class must work out for itself: real casts, real rests,
 * real arrays, whose refusals it learns from what the machine throws.
 */
public final class AgainstTheMachine {
    private static final int RUNS = 10000, CALLS = 512;
    /** A strip of sixteen places that is filled, and what is asked after it. */
    private static final int CALLS_OF_A_STEP = 2 * 16 + 2 + 3;
    private static int wrong = 0;

    public static void main(String[] args) {
        for (int run = 0; run < RUNS && wrong < 20; run++) new Run(run).go();
        roundTrips();
        System.out.println(wrong == 0 ? "all answers are as the machine's" : wrong + " answers are not as the machine's");
        if (wrong != 0) System.exit(1);
    }

    private static void due(int run, int call, String what, long got, long want) {
        if (got == want) return;
        wrong++;
        System.out.println("run " + run + ", call " + call + ": " + what + " answered " + got + ", due is " + want);
    }

    /** Bits go in and come out again, over all exponents. */
    private static void roundTrips() {
        for (long bits = Integer.MIN_VALUE; bits <= Integer.MAX_VALUE; bits += 9973) {
            roundTrip(2, bits, Float.isNaN(Float.intBitsToFloat((int) bits)));
        }
        Draw draw = new Draw(77);
        for (int i = 0; i < 300000; i++) {
            long bits = draw.next();
            roundTrip(3, bits, Double.isNaN(Double.longBitsToDouble(bits)));
        }
    }

    private static void roundTrip(int kind, long bits, boolean isNaN) {
        OrreryWorks x = new OrreryWorks();
        x.register(kind);
        due(-1, 2, "load(0, " + kind + ", " + bits + ")", x.load(0, kind, bits), isNaN ? OrreryWorks.BAD : 1);
        due(-1, 3, "read(0, " + kind + ")", x.read(0, kind), isNaN ? 0 : bits);
    }

    /** A fixed row of numbers: the same in every run of the tests. */
    private static final class Draw {
        private long state;

        Draw(long seed) {
            state = seed * 0x9E3779B97F4A7C15L + 1;
        }

        long next() {
            state += 0x9E3779B97F4A7C15L;
            long z = state;
            z = (z ^ (z >>> 30)) * 0xBF58476D1CE4E5B9L;
            z = (z ^ (z >>> 27)) * 0x94D049BB133111EBL;
            return z ^ (z >>> 31);
        }

        int below(int n) {
            return (int) Long.remainderUnsigned(next(), n);
        }

        /** Mostly a number from 0 to n - 1, now and then one beside them or far off. */
        int about(int n) {
            int way = below(40);
            if (way == 0) return -1;
            if (way == 1) return n;
            if (way == 2) return (int) next();
            return n == 0 ? 0 : below(n);
        }

        double number() {
            switch (below(13)) {
                case 0: return 0.0;
                case 1: return -0.0;
                case 2: return below(2) == 0 ? Double.POSITIVE_INFINITY : Double.NEGATIVE_INFINITY;
                case 3: return below(2) == 0 ? Double.MAX_VALUE : -Double.MAX_VALUE;
                case 4: return Double.MIN_VALUE * (below(64) - 32);
                case 5: return Float.MIN_VALUE * (double) (below(64) - 32) / 2;
                case 6: return (double) (1L << below(64)) * (below(2) == 0 ? 1 : -1) + below(3) - 1;
                case 7: return Float.MAX_VALUE * (0.5 + below(4) * 0.25);
                case 8: return below(2) == 0 ? Math.nextDown(2147483648.0) : -2147483649.0;
                case 9: return Double.longBitsToDouble(next());
                case 10: return Float.intBitsToFloat((int) next());
                default: return ordinary();
            }
        }

        double ordinary() {
            return (below(4001) - 2000) / (double) (1 + below(100));
        }

        long bits(int kind) {
            switch (kind) {
                case 2: return below(8) == 0 ? next() : Float.floatToRawIntBits((float) number());
                case 3: return Double.doubleToRawLongBits(number());
                default:
                    switch (below(4)) {
                        case 0: return (1L << below(64)) + below(3) - 1;
                        case 1: return next();
                        case 2: return below(2) == 0 ? Long.MIN_VALUE : Long.MAX_VALUE;
                        default: return below(201) - 100;
                    }
            }
        }
    }

    private static final class Run {
        private final int run;
        private final Draw draw;
        private final OrreryWorks x = new OrreryWorks();
        private final Model m = new Model();
        private int calls = 0;

        Run(int run) {
            this.run = run;
            draw = new Draw(run);
        }

        void go() {
            while (calls + CALLS_OF_A_STEP <= CALLS && wrong < 20) {
                one();
                ask("refused()", x.refused(), m.latest);
                int refusal = -1 - draw.below(11);
                ask("often(" + refusal + ")", x.often(refusal), m.oftenOf(refusal));
                int what = draw.about(5);
                ask("count(" + what + ")", x.count(what), m.countOf(what));
            }
        }

        /** Each call is counted, since what an object answers after its last one is free. */
        private void ask(String what, long got, long want) {
            calls++;
            due(run, calls, what, got, want);
        }

        private void askOwnValue(int register) {
            if (Model.lacks(m.registers, register)) return;
            int kind = m.kindOf(register);
            ask("read(" + register + ", " + kind + ")", x.read(register, kind), m.read(register, kind));
        }

        private void rest(int strip, int register) {
            ask("rests(" + strip + ", " + register + ")", x.rests(strip, register), m.rests(strip, register));
            askOwnValue(register);
        }

        /** Places that are filled here and there seldom come to several rests. */
        private void fillAndRest(int strip, int register) {
            int lane = m.laneOf(strip), from = m.someDouble();
            boolean ordinary = draw.below(2) == 0;
            for (int i = 0; i < m.lengthOf(strip); i++) {
                long bits = Double.doubleToRawLongBits(ordinary ? draw.ordinary() : draw.number());
                ask("load(" + from + ", 3, " + bits + ")", x.load(from, 3, bits), m.load(from, 3, bits));
                ask("keep(" + strip + ", " + lane + ", " + i + ", " + from + ")", x.keep(strip, lane, i, from), m.keep(strip, lane, i, from));
            }
            rest(strip, register);
        }

        private void one() {
            int w = draw.about(m.wheels.size()), r = draw.about(m.registers.size()), q = draw.about(m.registers.size());
            int s = draw.about(m.strips.size()), p = draw.about(m.pointers.size()), t = draw.about(m.stands.size());
            int kind = draw.about(4), place = draw.about(4);
            long bits = draw.bits(kind);
            switch (draw.below(26)) {
                case 0: {
                    int k = draw.below(20) == 0 ? kind : 2 + draw.below(2);
                    long turn = draw.bits(3);
                    ask("wheel(" + k + ", " + turn + ")", x.wheel(k, turn), m.wheel(k, turn));
                    break;
                }
                case 1: case 2: case 3: {
                    long by = draw.bits(3);
                    ask("turn(" + w + ", " + by + ")", x.turn(w, by), m.turn(w, by));
                    for (int what = -1; what < 3; what++) ask("wheelOf(" + w + ", " + what + ")", x.wheelOf(w, what), m.wheelOf(w, what));
                    break;
                }
                case 4: ask("register(" + kind + ")", x.register(kind), m.register(kind)); break;
                case 5: case 6: case 7: ask("load(" + r + ", " + kind + ", " + bits + ")", x.load(r, kind, bits), m.load(r, kind, bits)); break;
                case 8: ask("read(" + r + ", " + kind + ")", x.read(r, kind), m.read(r, kind)); break;
                case 9: ask("move(" + r + ", " + q + ")", x.move(r, q), m.move(r, q)); break;
                case 10: ask("take(" + w + ", " + r + ")", x.take(w, r), m.take(w, r)); break;
                case 11: case 12: case 13: {
                    int what = draw.about(5), to = draw.about(m.registers.size());
                    ask("work(" + what + ", " + r + ", " + q + ", " + to + ")", x.work(what, r, q, to), m.work(what, r, q, to));
                    askOwnValue(to);
                    break;
                }
                case 14: {
                    int n = draw.below(3) == 0 ? draw.about(17) : draw.about(6);
                    ask("strip(" + kind + ", " + n + ")", x.strip(kind, n), m.strip(kind, n));
                    break;
                }
                case 15:
                    if (draw.below(4) == 0) ask("tear(" + s + ")", x.tear(s), m.tear(s));
                    break;
                case 16: case 17: {
                    int lane = draw.below(8) == 0 ? kind : m.laneOf(s);
                    ask("keep(" + s + ", " + lane + ", " + place + ", " + r + ")", x.keep(s, lane, place, r), m.keep(s, lane, place, r));
                    break;
                }
                case 18: {
                    int lane = draw.below(8) == 0 ? kind : m.laneOf(s);
                    ask("kept(" + s + ", " + lane + ", " + place + ")", x.kept(s, lane, place), m.kept(s, lane, place));
                    break;
                }
                case 19: rest(s, r); break;
                case 20: fillAndRest(s, r); break;
                case 21: ask("pointer(" + kind + ", " + w + ")", x.pointer(kind, w), m.pointer(kind, w)); break;
                case 22: {
                    int n = draw.about(7);
                    ask("stand(" + kind + ", " + n + ")", x.stand(kind, n), m.stand(kind, n));
                    break;
                }
                case 23: ask("set(" + t + ", " + place + ", " + p + ")", x.set(t, place, p), m.set(t, place, p)); break;
                case 24: ask("hang(" + t + ", " + place + ", " + p + ")", x.hang(t, place, p), m.hang(t, place, p)); break;
                default:
                    ask("show(" + t + ", " + place + ")", x.show(t, place), m.show(t, place));
                    ask("all(" + t + ")", x.all(t), m.all(t));
            }
        }
    }

    private interface Showing {
        long shows();
    }

    private static class Hand implements Showing {
        final Disc disc;

        Hand(Disc disc) {
            this.disc = disc;
        }

        public long shows() {
            return disc.isFloat ? (long) (int) disc.f : (long) (int) disc.d;
        }
    }

    private static class FineHand extends Hand {
        FineHand(Disc disc) {
            super(disc);
        }

        public long shows() {
            return (long) (disc.asDouble() * 1000.0);
        }
    }

    private static final class VernierHand extends FineHand {
        VernierHand(Disc disc) {
            super(disc);
        }

        public long shows() {
            return Float.floatToIntBits((float) super.shows());
        }
    }

    private static final class LampLight implements Showing {
        final Disc disc;

        LampLight(Disc disc) {
            this.disc = disc;
        }

        public long shows() {
            return Double.doubleToRawLongBits(disc.asDouble()) >>> 63;
        }
    }

    private static final class Disc {
        final boolean isFloat;
        float f, turnF;
        double d, turnD;

        Disc(boolean isFloat, double turn) {
            this.isFloat = isFloat;
            turnF = (float) turn;
            turnD = turn;
        }

        double asDouble() {
            return isFloat ? f : d;
        }
    }

    /** Registers are Integer, Long, Float, Double; strips are int[], long[], float[], double[], or null. */
    private static final class Model {
        final List<Disc> wheels = new ArrayList<>();
        final List<Number> registers = new ArrayList<>();
        final List<Object> strips = new ArrayList<>();
        final List<Showing> pointers = new ArrayList<>();
        final List<Showing[]> stands = new ArrayList<>();
        final int[] often = new int[16];
        int latest = 0;

        int no(int why) {
            latest = why;
            if (why != -2) often[-why]++;
            return why;
        }

        int zero(int why) {
            no(why);
            return 0;
        }

        int yes(int answer) {
            latest = 0;
            return answer;
        }

        int oftenOf(int refusal) {
            return refusal <= -3 && refusal >= -10 ? often[-refusal] : 0;
        }

        int countOf(int what) {
            int[] counts = {wheels.size(), registers.size(), strips.size(), pointers.size(), stands.size()};
            return what >= 0 && what < 5 ? counts[what] : -2;
        }

        static boolean lacks(List<?> list, int i) {
            return i < 0 || i >= list.size();
        }

        static boolean noKind(int kind) {
            return kind < 0 || kind > 3;
        }

        static int kindOf(Number n) {
            return n instanceof Integer ? 0 : n instanceof Long ? 1 : n instanceof Float ? 2 : 3;
        }

        int kindOf(int register) {
            return kindOf(registers.get(register));
        }

        int laneOf(int strip) {
            Object o = lacks(strips, strip) ? null : strips.get(strip);
            return o instanceof int[] ? 0 : o instanceof long[] ? 1 : o instanceof float[] ? 2 : 3;
        }

        int lengthOf(int strip) {
            Object o = lacks(strips, strip) ? null : strips.get(strip);
            return o == null ? 0 : Array.getLength(o);
        }

        /** A register of doubles, if there is one. */
        int someDouble() {
            for (int register = 0; register < registers.size(); register++) if (kindOf(register) == 3) return register;
            return 0;
        }

        static Number cast(Number n, int kind) {
            switch (kind) {
                case 0: return n.intValue();
                case 1: return n.longValue();
                case 2: return n.floatValue();
                default: return n.doubleValue();
            }
        }

        static long bits(Number n) {
            switch (kindOf(n)) {
                case 2: return Float.floatToIntBits((Float) n);
                case 3: return Double.doubleToLongBits((Double) n);
                default: return n.longValue();
            }
        }

        static Number value(int kind, long bits) {
            switch (kind) {
                case 0: return (int) bits;
                case 1: return bits;
                case 2: return Float.intBitsToFloat((int) bits);
                default: return Double.longBitsToDouble(bits);
            }
        }

        static boolean isNaN(Number n) {
            return n.doubleValue() != n.doubleValue();
        }

        void hold(int register, Number n) {
            registers.set(register, cast(n, kindOf(register)));
        }

        int wheel(int kind, long turn) {
            double d = Double.longBitsToDouble(turn);
            if (kind != 2 && kind != 3 || d != d || (kind == 2 ? (float) d == 0 : d == 0)) return no(-2);
            if (wheels.size() == 10) return no(-3);
            wheels.add(new Disc(kind == 2, d));
            return yes(wheels.size() - 1);
        }

        int turn(int wheel, long by) {
            double d = Double.longBitsToDouble(by);
            if (lacks(wheels, wheel) || d != d) return zero(-2);
            Disc disc = wheels.get(wheel);
            if (disc.isFloat) {
                float sum = disc.f + (float) d;
                if (Float.isInfinite(sum)) return zero(-4);
                disc.f = sum % disc.turnF;
                return yes((int) (sum / disc.turnF));
            }
            double sum = disc.d + d;
            if (Double.isInfinite(sum)) return zero(-4);
            disc.d = sum % disc.turnD;
            return yes((int) (sum / disc.turnD));
        }

        long wheelOf(int wheel, int what) {
            if (lacks(wheels, wheel) || what < 0 || what > 1) return zero(-2);
            Disc disc = wheels.get(wheel);
            yes(0);
            if (disc.isFloat) return Float.floatToIntBits(what == 0 ? disc.f : disc.turnF);
            return Double.doubleToLongBits(what == 0 ? disc.d : disc.turnD);
        }

        int register(int kind) {
            if (noKind(kind)) return no(-2);
            if (registers.size() == 16) return no(-3);
            registers.add(cast(0, kind));
            return yes(registers.size() - 1);
        }

        int load(int register, int kind, long bits) {
            if (lacks(registers, register) || noKind(kind) || isNaN(value(kind, bits))) return no(-2);
            hold(register, value(kind, bits));
            return yes(1);
        }

        long read(int register, int kind) {
            if (lacks(registers, register) || noKind(kind)) return zero(-2);
            yes(0);
            return bits(cast(registers.get(register), kind));
        }

        int move(int from, int to) {
            if (lacks(registers, from) || lacks(registers, to)) return no(-2);
            Number n = registers.get(from);
            hold(to, n);
            return yes(bits(cast(registers.get(to), kindOf(n))) == bits(n) ? 1 : 0);
        }

        int take(int wheel, int register) {
            if (lacks(wheels, wheel) || lacks(registers, register)) return no(-2);
            Disc disc = wheels.get(wheel);
            if (disc.isFloat) hold(register, disc.f);
            else hold(register, disc.d);
            return yes(1);
        }

        int work(int what, int a, int b, int to) {
            if (what < 0 || what > 4 || lacks(registers, a) || lacks(registers, b) || lacks(registers, to)) return no(-2);
            int kind = Math.max(kindOf(a), kindOf(b));
            Number p = cast(registers.get(a), kind), q = cast(registers.get(b), kind), answer;
            try {
                answer = kind == 0 ? ints(what, p.intValue(), q.intValue()) : kind == 1 ? (Number) longs(what, p.longValue(), q.longValue())
                    : kind == 2 ? (Number) floats(what, p.floatValue(), q.floatValue()) : (Number) doubles(what, p.doubleValue(), q.doubleValue());
            } catch (ArithmeticException e) {
                return no(-6);
            }
            if (isNaN(answer)) return no(-5);
            hold(to, answer);
            return yes(1);
        }

        static Integer ints(int what, int p, int q) {
            return what == 0 ? p + q : what == 1 ? p - q : what == 2 ? p * q : what == 3 ? p / q : p % q;
        }

        static Long longs(int what, long p, long q) {
            return what == 0 ? p + q : what == 1 ? p - q : what == 2 ? p * q : what == 3 ? p / q : p % q;
        }

        static Float floats(int what, float p, float q) {
            return what == 0 ? p + q : what == 1 ? p - q : what == 2 ? p * q : what == 3 ? p / q : p % q;
        }

        static Double doubles(int what, double p, double q) {
            return what == 0 ? p + q : what == 1 ? p - q : what == 2 ? p * q : what == 3 ? p / q : p % q;
        }

        int strip(int lane, int n) {
            if (noKind(lane) || n < 0 || n > 16) return no(-2);
            if (strips.size() == 8) return no(-3);
            strips.add(lane == 0 ? new int[n] : lane == 1 ? new long[n] : lane == 2 ? new float[n] : new double[n]);
            return yes(strips.size() - 1);
        }

        int tear(int strip) {
            if (lacks(strips, strip)) return no(-2);
            return yes(strips.set(strip, null) == null ? 0 : 1);
        }

        static int kindOfThrown(RuntimeException e) {
            return e instanceof ClassCastException ? -7 : e instanceof ArrayStoreException ? -9 : e instanceof NullPointerException ? -10 : -8;
        }

        int keep(int strip, int lane, int i, int register) {
            if (lacks(strips, strip) || noKind(lane) || lacks(registers, register)) return no(-2);
            Object row = strips.get(strip);
            Number n = registers.get(register);
            try {
                switch (lane) {
                    case 0: ((int[]) row)[i] = n.intValue(); break;
                    case 1: ((long[]) row)[i] = n.longValue(); break;
                    case 2: ((float[]) row)[i] = n.floatValue(); break;
                    default: ((double[]) row)[i] = n.doubleValue();
                }
                return yes(1);
            } catch (ClassCastException | NullPointerException | ArrayIndexOutOfBoundsException e) {
                return no(kindOfThrown(e));
            }
        }

        long kept(int strip, int lane, int i) {
            if (lacks(strips, strip) || noKind(lane)) return zero(-2);
            Object row = strips.get(strip);
            try {
                long found = lane == 0 ? ((int[]) row)[i] : lane == 1 ? ((long[]) row)[i]
                    : lane == 2 ? Float.floatToIntBits(((float[]) row)[i]) : Double.doubleToLongBits(((double[]) row)[i]);
                yes(0);
                return found;
            } catch (ClassCastException | NullPointerException | ArrayIndexOutOfBoundsException e) {
                return zero(kindOfThrown(e));
            }
        }

        int rests(int strip, int register) {
            if (lacks(strips, strip) || lacks(registers, register)) return no(-2);
            Object row = strips.get(strip);
            try {
                int found = 0;
                if (row instanceof float[]) {
                    float[] places = (float[]) row;
                    float sum = 0;
                    for (int i = 0; i + 1 < places.length; i++) {
                        float rest = places[i] % places[i + 1];
                        if (rest == rest) {
                            sum += rest;
                            found++;
                        }
                    }
                    hold(register, sum);
                } else {
                    double[] places = (double[]) row;
                    double sum = 0;
                    for (int i = 0; i + 1 < places.length; i++) {
                        double rest = places[i] % places[i + 1];
                        if (rest == rest) {
                            sum += rest;
                            found++;
                        }
                    }
                    hold(register, sum);
                }
                return yes(found);
            } catch (ClassCastException | NullPointerException e) {
                return no(kindOfThrown(e));
            }
        }

        int pointer(int sort, int wheel) {
            if (sort < 0 || sort > 3 || lacks(wheels, wheel)) return no(-2);
            if (pointers.size() == 12) return no(-3);
            Disc disc = wheels.get(wheel);
            pointers.add(sort == 0 ? new Hand(disc) : sort == 1 ? new FineHand(disc) : sort == 2 ? new VernierHand(disc) : new LampLight(disc));
            return yes(pointers.size() - 1);
        }

        int stand(int sort, int n) {
            if (sort < 0 || sort > 3 || n < 1 || n > 6) return no(-2);
            if (stands.size() == 8) return no(-3);
            stands.add(sort == 0 ? new Hand[n] : sort == 1 ? new FineHand[n] : sort == 2 ? new VernierHand[n] : new Showing[n]);
            return yes(stands.size() - 1);
        }

        int set(int stand, int i, int pointer) {
            if (lacks(stands, stand) || pointer != -1 && lacks(pointers, pointer)) return no(-2);
            try {
                Hand hand = (Hand) (pointer == -1 ? null : pointers.get(pointer));
                ((Hand[]) stands.get(stand))[i] = hand;
                return yes(1);
            } catch (ClassCastException | ArrayStoreException | ArrayIndexOutOfBoundsException e) {
                return no(kindOfThrown(e));
            }
        }

        int hang(int stand, int i, int pointer) {
            if (lacks(stands, stand) || pointer != -1 && lacks(pointers, pointer)) return no(-2);
            try {
                stands.get(stand)[i] = pointer == -1 ? null : pointers.get(pointer);
                return yes(1);
            } catch (ArrayStoreException | ArrayIndexOutOfBoundsException e) {
                return no(kindOfThrown(e));
            }
        }

        long show(int stand, int i) {
            if (lacks(stands, stand)) return zero(-2);
            try {
                long shown = stands.get(stand)[i].shows();
                yes(0);
                return shown;
            } catch (NullPointerException | ArrayIndexOutOfBoundsException e) {
                return zero(kindOfThrown(e));
            }
        }

        long all(int stand) {
            if (lacks(stands, stand)) return zero(-2);
            yes(0);
            long sum = 0;
            for (Showing there : stands.get(stand)) if (there != null) sum += there.shows();
            return sum;
        }
    }
}
