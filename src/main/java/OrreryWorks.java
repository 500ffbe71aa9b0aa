/**
 * The works of an orrery: wheels, registers, strips, pointers and stands.
 * DOC.md tells what each call promises; README.md tells how the file is laid out.
 */
public final class OrreryWorks {
    public static final int NONE = -1, BAD = -2, FULL = -3, SPUN = -4, VOID = -5, ZERO = -6, CAST = -7, INDEX = -8, STORE = -9, NULL = -10;

    private static final int INT = 0, LONG = 1, FLOAT = 2, DOUBLE = 3;
    private static final int PLUS = 0, LESS = 1, TIMES = 2, BY = 3, REST = 4;
    private static final int COARSE = 0, FINE = 1, VERNIER = 2, LAMP = 3;
    private static final int OF_HANDS = 0, OF_FINE = 1, OF_VERNIERS = 2, OF_SHOWING = 3;
    private static final int MOST_WHEELS = 10, MOST_REGISTERS = 16, MOST_STRIPS = 8, MOST_POINTERS = 12, MOST_STANDS = 8;
    private static final int LONGEST_STRIP = 16, LONGEST_STAND = 6;
    private static final int COUNTED_REFUSALS = FULL - NULL + 1;

    private final Wheel[] wheels = new Wheel[MOST_WHEELS];
    private final Cell[] registers = new Cell[MOST_REGISTERS];
    private final Strip[] strips = new Strip[MOST_STRIPS];
    private final Pointer[] pointers = new Pointer[MOST_POINTERS];
    private final Stand[] stands = new Stand[MOST_STANDS];
    private int wheelCount, registerCount, stripCount, pointerCount, standCount;
    private final int[] refusalCounts = new int[COUNTED_REFUSALS];
    private int latestRefusal;

    public OrreryWorks() {
    }

    public int wheel(int kind, long turn) {
        if (!isRealKind(kind) || !Reals.isDouble(turn)) return refuse(BAD);
        double wholeTurn = Reals.inKind(kind, Reals.ofDoubleBits(turn));
        if (wholeTurn == 0.0) return refuse(BAD);
        if (wheelCount >= MOST_WHEELS) return refuse(FULL);
        wheels[wheelCount] = new Wheel(kind, wholeTurn);
        return grant(wheelCount++);
    }

    public int turn(int wheel, long by) {
        Wheel turning = wheelAt(wheel);
        if (turning == null || !Reals.isDouble(by)) return refuseAnyNumber(BAD);
        double sum = turning.sumWith(Reals.ofDoubleBits(by));
        if (Reals.isEndless(sum)) return refuseAnyNumber(SPUN);
        return grant(turning.turnTo(sum));
    }

    public long wheelOf(int wheel, int what) {
        Wheel asked = wheelAt(wheel);
        if (asked == null || what < 0 || what > 1) return refuseAnyNumber(BAD);
        return grantLong(Reals.bitsOf(asked.kind, what == 0 ? asked.position : asked.wholeTurn));
    }

    public int register(int kind) {
        if (!isKind(kind)) return refuse(BAD);
        if (registerCount >= MOST_REGISTERS) return refuse(FULL);
        registers[registerCount] = new Cell(kind);
        return grant(registerCount++);
    }

    public int load(int register, int kind, long bits) {
        Cell to = registerAt(register);
        if (to == null || !isKind(kind) || !isValue(kind, bits)) return refuse(BAD);
        to.holdBits(kind, bits);
        return grant(1);
    }

    public long read(int register, int kind) {
        Cell from = registerAt(register);
        if (from == null || !isKind(kind)) return refuseAnyNumber(BAD);
        return grantLong(from.bitsAs(kind));
    }

    public int move(int from, int to) {
        Cell source = registerAt(from);
        Cell target = registerAt(to);
        if (source == null || target == null) return refuse(BAD);
        target.holdCell(source);
        return grant(target.bitsAs(source.kind) == source.bitsAs(source.kind) ? 1 : 0);
    }

    public int take(int wheel, int register) {
        Wheel from = wheelAt(wheel);
        Cell to = registerAt(register);
        if (from == null || to == null) return refuse(BAD);
        to.holdReal(from.position);
        return grant(1);
    }

    public int work(int what, int a, int b, int to) {
        Cell first = registerAt(a);
        Cell second = registerAt(b);
        Cell third = registerAt(to);
        if (what < PLUS || what > REST || first == null || second == null || third == null) return refuse(BAD);
        int kind = Math.max(first.kind, second.kind);
        return isRealKind(kind) ? workReals(kind, what, first, second, third) : workWholes(kind, what, first, second, third);
    }

    public int strip(int lane, int n) {
        if (!isKind(lane) || n < 0 || n > LONGEST_STRIP) return refuse(BAD);
        if (stripCount >= MOST_STRIPS) return refuse(FULL);
        strips[stripCount] = new Strip(lane, n);
        return grant(stripCount++);
    }

    public int tear(int strip) {
        Strip torn = stripAt(strip);
        if (torn == null) return refuse(BAD);
        return grant(torn.makeGone() ? 1 : 0);
    }

    public int keep(int strip, int lane, int i, int register) {
        Strip row = stripAt(strip);
        Cell from = registerAt(register);
        if (row == null || from == null || !isKind(lane)) return refuse(BAD);
        int refusal = row.refusalAs(lane);
        if (refusal != 0) return refuse(refusal);
        Cell place = row.placeAt(i);
        if (place == null) return refuse(INDEX);
        place.holdCell(from);
        return grant(1);
    }

    public long kept(int strip, int lane, int i) {
        Strip row = stripAt(strip);
        if (row == null || !isKind(lane)) return refuseAnyNumber(BAD);
        int refusal = row.refusalAs(lane);
        if (refusal != 0) return refuseAnyNumber(refusal);
        Cell place = row.placeAt(i);
        if (place == null) return refuseAnyNumber(INDEX);
        return grantLong(place.bitsAs(lane));
    }

    public int rests(int strip, int register) {
        Strip row = stripAt(strip);
        Cell to = registerAt(register);
        if (row == null || to == null) return refuse(BAD);
        // before CAST, since what is GONE is of no LANE
        if (row.isGone()) return refuse(NULL);
        if (!isRealKind(row.lane)) return refuse(CAST);
        return grant(row.restsInto(to));
    }

    public int pointer(int sort, int wheel) {
        Wheel shown = wheelAt(wheel);
        if (shown == null || sort < COARSE || sort > LAMP) return refuse(BAD);
        if (pointerCount >= MOST_POINTERS) return refuse(FULL);
        pointers[pointerCount] = new Pointer(sort, shown);
        return grant(pointerCount++);
    }

    public int stand(int sort, int n) {
        if (sort < OF_HANDS || sort > OF_SHOWING || n < 1 || n > LONGEST_STAND) return refuse(BAD);
        if (standCount >= MOST_STANDS) return refuse(FULL);
        stands[standCount] = new Stand(sort, n);
        return grant(standCount++);
    }

    public int set(int stand, int i, int pointer) {
        Stand row = standAt(stand);
        Pointer hand = pointerAt(pointer);
        if (row == null || hand == null && pointer != NONE) return refuse(BAD);
        if (!row.goesAsHands() || hand != null && !hand.isHand()) return refuse(CAST);
        return put(row, i, hand);
    }

    public int hang(int stand, int i, int pointer) {
        Stand row = standAt(stand);
        Pointer showing = pointerAt(pointer);
        if (row == null || showing == null && pointer != NONE) return refuse(BAD);
        return put(row, i, showing);
    }

    public long show(int stand, int i) {
        Stand row = standAt(stand);
        if (row == null) return refuseAnyNumber(BAD);
        if (!row.hasPlace(i)) return refuseAnyNumber(INDEX);
        Pointer there = row.pointerIn(i);
        if (there == null) return refuseAnyNumber(NULL);
        return grantLong(there.shown());
    }

    public long all(int stand) {
        Stand row = standAt(stand);
        if (row == null) return refuseAnyNumber(BAD);
        return grantLong(row.sumOfShown());
    }

    public int count(int what) {
        switch (what) {
            case 0: return wheelCount;
            case 1: return registerCount;
            case 2: return stripCount;
            case 3: return pointerCount;
            case 4: return standCount;
            default: return BAD;
        }
    }

    public int often(int refusal) {
        return isCounted(refusal) ? refusalCounts[FULL - refusal] : 0;
    }

    public int refused() {
        return latestRefusal;
    }

    private Wheel wheelAt(int number) {
        return number >= 0 && number < wheelCount ? wheels[number] : null;
    }

    private Cell registerAt(int number) {
        return number >= 0 && number < registerCount ? registers[number] : null;
    }

    private Strip stripAt(int number) {
        return number >= 0 && number < stripCount ? strips[number] : null;
    }

    private Pointer pointerAt(int number) {
        return number >= 0 && number < pointerCount ? pointers[number] : null;
    }

    private Stand standAt(int number) {
        return number >= 0 && number < standCount ? stands[number] : null;
    }

    private int grant(int answer) {
        latestRefusal = 0;
        return answer;
    }

    private long grantLong(long answer) {
        latestRefusal = 0;
        return answer;
    }

    private int refuse(int refusal) {
        latestRefusal = refusal;
        if (isCounted(refusal)) refusalCounts[FULL - refusal]++;
        return refusal;
    }

    /** Where any number may be the answer, a refusal cannot be told by it. */
    private int refuseAnyNumber(int refusal) {
        refuse(refusal);
        return 0;
    }

    private int workWholes(int kind, int what, Cell first, Cell second, Cell third) {
        long a = first.wholeAs(kind);
        long b = second.wholeAs(kind);
        if (b == 0 && (what == BY || what == REST)) return refuse(ZERO);
        third.holdWhole(Wholes.worked(kind, what, a, b));
        return grant(1);
    }

    private int workReals(int kind, int what, Cell first, Cell second, Cell third) {
        double a = first.realAs(kind);
        double b = second.realAs(kind);
        if (Reals.isVoid(what, a, b)) return refuse(VOID);
        third.holdReal(Reals.worked(kind, what, a, b));
        return grant(1);
    }

    private int put(Stand row, int i, Pointer pointer) {
        if (!row.hasPlace(i)) return refuse(INDEX);
        if (!row.isWideEnoughFor(pointer)) return refuse(STORE);
        row.putAt(i, pointer);
        return grant(1);
    }

    private static boolean isCounted(int refusal) {
        return refusal <= FULL && refusal >= NULL;
    }

    private static boolean isKind(int kind) {
        return kind >= INT && kind <= DOUBLE;
    }

    private static boolean isRealKind(int kind) {
        return kind == FLOAT || kind == DOUBLE;
    }

    private static boolean isValue(int kind, long bits) {
        if (kind == FLOAT) return Reals.isFloat((int) bits);
        return kind != DOUBLE || Reals.isDouble(bits);
    }

    /**
     * A value of a kind: a register, or a place of a strip. Ints and longs stand in
     * 'whole', floats and doubles in 'real': each fits there unchanged, and a cast out
     * of the wider type gives what a cast out of its own would.
     */
    private static final class Cell {
        final int kind;
        private long whole;
        private double real;

        Cell(int kind) {
            this.kind = kind;
        }

        void holdWhole(long value) {
            if (isRealKind(kind)) real = Reals.ofLong(kind, value);
            else whole = Wholes.inKind(kind, value);
        }

        void holdReal(double value) {
            if (isRealKind(kind)) real = Reals.inKind(kind, value);
            else whole = Wholes.ofDouble(kind, value);
        }

        void holdCell(Cell other) {
            if (isRealKind(other.kind)) holdReal(other.real);
            else holdWhole(other.whole);
        }

        void holdBits(int bitsKind, long bits) {
            if (bitsKind == DOUBLE) holdReal(Reals.ofDoubleBits(bits));
            else if (bitsKind == FLOAT) holdReal(Reals.ofFloatBits((int) bits));
            else holdWhole(Wholes.inKind(bitsKind, bits));
        }

        long wholeAs(int asKind) {
            return isRealKind(kind) ? Wholes.ofDouble(asKind, real) : Wholes.inKind(asKind, whole);
        }

        double realAs(int asKind) {
            return isRealKind(kind) ? Reals.inKind(asKind, real) : Reals.ofLong(asKind, whole);
        }

        long bitsAs(int asKind) {
            return isRealKind(asKind) ? Reals.bitsOf(asKind, realAs(asKind)) : wholeAs(asKind);
        }
    }

    private static final class Wheel {
        final int kind;
        final double wholeTurn;
        double position;

        Wheel(int kind, double wholeTurn) {
            this.kind = kind;
            this.wholeTurn = wholeTurn;
        }

        double sumWith(double by) {
            return Reals.worked(kind, PLUS, position, Reals.inKind(kind, by));
        }

        int turnTo(double sum) {
            position = Reals.worked(kind, REST, sum, wholeTurn);
            return (int) Reals.worked(kind, BY, sum, wholeTurn);
        }
    }

    private static final class Strip {
        final int lane;
        /** Null when the strip is GONE. */
        private Cell[] places;

        Strip(int lane, int n) {
            this.lane = lane;
            places = new Cell[n];
            for (int i = 0; i < n; i++) places[i] = new Cell(lane);
        }

        boolean isGone() {
            return places == null;
        }

        boolean makeGone() {
            boolean wasThere = places != null;
            places = null;
            return wasThere;
        }

        /** 0, or why the strip cannot be taken as a row of asLane; what is GONE is of no LANE, so never CAST. */
        int refusalAs(int asLane) {
            if (places == null) return NULL;
            return lane == asLane ? 0 : CAST;
        }

        Cell placeAt(int i) {
            return places != null && i >= 0 && i < places.length ? places[i] : null;
        }

        int restsInto(Cell to) {
            int found = 0;
            double total = 0.0;
            int length = places == null ? 0 : places.length;
            for (int i = 1; i < length; i++) {
                double place = realAt(i - 1);
                double next = realAt(i);
                if (Reals.isVoid(REST, place, next)) continue;
                total = Reals.worked(lane, PLUS, total, Reals.worked(lane, REST, place, next));
                found++;
            }
            to.holdReal(total);
            return found;
        }

        private double realAt(int i) {
            Cell place = placeAt(i);
            return place == null ? 0.0 : place.realAs(lane);
        }
    }

    private static final class Pointer {
        final int sort;
        private final Wheel wheel;

        Pointer(int sort, Wheel wheel) {
            this.sort = sort;
            this.wheel = wheel;
        }

        boolean isHand() {
            return sort != LAMP;
        }

        boolean isFine() {
            return sort == FINE || sort == VERNIER;
        }

        long shown() {
            switch (sort) {
                case COARSE: return (int) wheel.position;
                case FINE: return thousandths();
                case VERNIER: return Reals.floatBits((float) thousandths());
                default: return Reals.hasMinus(wheel.position) ? 1 : 0;
            }
        }

        private long thousandths() {
            return (long) (wheel.position * 1000.0);
        }
    }

    private static final class Stand {
        private final int sort;
        private final Pointer[] places;

        Stand(int sort, int n) {
            this.sort = sort;
            places = new Pointer[n];
        }

        boolean goesAsHands() {
            return sort != OF_SHOWING;
        }

        boolean hasPlace(int i) {
            return i >= 0 && i < places.length;
        }

        boolean isWideEnoughFor(Pointer pointer) {
            if (pointer == null) return true;
            switch (sort) {
                case OF_HANDS: return pointer.isHand();
                case OF_FINE: return pointer.isFine();
                case OF_VERNIERS: return pointer.sort == VERNIER;
                default: return true;
            }
        }

        void putAt(int i, Pointer pointer) {
            if (hasPlace(i)) places[i] = pointer;
        }

        Pointer pointerIn(int i) {
            return hasPlace(i) ? places[i] : null;
        }

        long sumOfShown() {
            long sum = 0;
            for (int i = 0; i < places.length; i++) {
                Pointer there = places[i];
                if (there != null) sum += there.shown();
            }
            return sum;
        }
    }

    /** Ints and longs, both carried as longs. */
    private static final class Wholes {
        static long inKind(int kind, long value) {
            return kind == INT ? (int) value : value;
        }

        /** Not by a long: a double beyond the ints is cast to the nearest int, not cut. */
        static long ofDouble(int kind, double value) {
            return kind == INT ? (int) value : (long) value;
        }

        /** Ints are worked as longs and then cut: that is where they would have wrapped. */
        static long worked(int kind, int what, long a, long b) {
            switch (what) {
                case PLUS: return inKind(kind, a + b);
                case LESS: return inKind(kind, a - b);
                case TIMES: return inKind(kind, a * b);
                case BY: return b == 0 ? 0 : inKind(kind, a / b);
                default: return b == 0 ? 0 : inKind(kind, a % b);
            }
        }
    }

    /** Floats and doubles, both carried as doubles, and their bits, which the language's own means here cannot ask for. */
    private static final class Reals {
        private static final int DOUBLE_DIGITS = 52, FLOAT_DIGITS = 23;
        private static final int LEAST_DOUBLE_EXPONENT = -1022, LEAST_FLOAT_EXPONENT = -126;
        private static final long DOUBLE_SIZE_MASK = 0x7FFFFFFFFFFFFFFFL, DOUBLE_ENDLESS = 0x7FF0000000000000L;
        private static final int FLOAT_SIZE_MASK = 0x7FFFFFFF, FLOAT_ENDLESS = 0x7F800000;
        /** A rest has at most 53 digits, and ten more do not reach a long's sign. */
        private static final int REST_STEP = 10;

        static boolean isDouble(long bits) {
            return (bits & DOUBLE_SIZE_MASK) <= DOUBLE_ENDLESS;
        }

        static boolean isFloat(int bits) {
            return (bits & FLOAT_SIZE_MASK) <= FLOAT_ENDLESS;
        }

        static boolean isEndless(double value) {
            return sizeOf(value) > 1.7976931348623157E308;
        }

        static boolean hasMinus(double value) {
            return value < 0.0 || value == 0.0 && 1.0 / value < 0.0;
        }

        static double inKind(int kind, double value) {
            return kind == FLOAT ? (float) value : value;
        }

        /** Not by a double: a long that is cast to a float is rounded once, not twice. */
        static double ofLong(int kind, long value) {
            return kind == FLOAT ? (float) value : (double) value;
        }

        static boolean isVoid(int what, double a, double b) {
            boolean bothEndless = isEndless(a) && isEndless(b);
            switch (what) {
                case PLUS: return bothEndless && a != b;
                case LESS: return bothEndless && a == b;
                case TIMES: return a == 0.0 && isEndless(b) || isEndless(a) && b == 0.0;
                case BY: return a == 0.0 && b == 0.0 || bothEndless;
                default: return b == 0.0 || isEndless(a);
            }
        }

        /** Asked only for what is not void. */
        static double worked(int kind, int what, double a, double b) {
            // a rest has no more digits than what it is of, so that in both kinds it is the same
            if (what == REST) return restOf(a, b);
            return kind == FLOAT ? workedFloats(what, (float) a, (float) b) : workedDoubles(what, a, b);
        }

        private static double workedDoubles(int what, double a, double b) {
            switch (what) {
                case PLUS: return a + b;
                case LESS: return a - b;
                case TIMES: return a * b;
                default: return a / b;
            }
        }

        private static float workedFloats(int what, float a, float b) {
            switch (what) {
                case PLUS: return a + b;
                case LESS: return a - b;
                case TIMES: return a * b;
                default: return a / b;
            }
        }

        /** A long division in whole numbers, since a rest by way of the quotient would be rounded. */
        private static double restOf(double a, double b) {
            double size = sizeOf(a);
            double by = sizeOf(b);
            if (size < by) return a;
            int exponent = exponentOf(by);
            long divisor = digitsOf(by, exponent, DOUBLE_DIGITS);
            if (divisor <= 0) return a;
            int sizeExponent = exponentOf(size);
            long rest = digitsOf(size, sizeExponent, DOUBLE_DIGITS) % divisor;
            for (int left = sizeExponent - exponent; left > 0; left -= REST_STEP) {
                rest = (rest << Math.min(left, REST_STEP)) % divisor;
            }
            return withSign(a < 0.0, (double) rest * powerOfTwo(exponent - DOUBLE_DIGITS));
        }

        static long bitsOf(int kind, double value) {
            return kind == FLOAT ? floatBits(value) : doubleBits(value);
        }

        private static long doubleBits(double value) {
            long size = isEndless(value) ? DOUBLE_ENDLESS : packed(sizeOf(value), DOUBLE_DIGITS, LEAST_DOUBLE_EXPONENT);
            return hasMinus(value) ? size | ~DOUBLE_SIZE_MASK : size;
        }

        static int floatBits(double value) {
            int size = isEndless(value) ? FLOAT_ENDLESS : (int) packed(sizeOf(value), FLOAT_DIGITS, LEAST_FLOAT_EXPONENT);
            return hasMinus(value) ? size | ~FLOAT_SIZE_MASK : size;
        }

        static double ofDoubleBits(long bits) {
            return withSign(bits < 0, unpacked(bits & DOUBLE_SIZE_MASK, DOUBLE_DIGITS, LEAST_DOUBLE_EXPONENT));
        }

        /** The cast makes 2 to the 128th, which the bits of an endless float come to, endless. */
        static double ofFloatBits(int bits) {
            return withSign(bits < 0, (float) unpacked(bits & FLOAT_SIZE_MASK, FLOAT_DIGITS, LEAST_FLOAT_EXPONENT));
        }

        /**
         * The exponent goes in one too low, and the leading digit, added with the others, carries
         * into it; a value too small for a leading digit so gets exponent 0 by itself.
         */
        private static long packed(double size, int digits, int leastExponent) {
            int exponent = Math.max(exponentOf(size), leastExponent);
            return ((long) (exponent - leastExponent) << digits) + digitsOf(size, exponent, digits);
        }

        private static double unpacked(long size, int digits, int leastExponent) {
            long leadingDigit = 1L << digits;
            long fraction = size & (leadingDigit - 1);
            int exponent = (int) (size >> digits);
            // exponent 0 is that of 1, but without the leading digit
            if (exponent == 0) return (double) fraction * powerOfTwo(leastExponent - digits);
            return (double) (fraction + leadingDigit) * powerOfTwo(exponent - 1 + leastExponent - digits);
        }

        /** By two powers, not one: 2 to the 1074th, which the least double needs, is no double. */
        private static long digitsOf(double size, int exponent, int digits) {
            return (long) (size / powerOfTwo(exponent) * powerOfTwo(digits));
        }

        /** The greatest n, but not below -1022, by which 2 to the n-th is not above a size that ends. */
        private static int exponentOf(double size) {
            int exponent = 0;
            double left = size;
            if (size < 1.0) {
                exponent = LEAST_DOUBLE_EXPONENT;
                left = size * powerOfTwo(-LEAST_DOUBLE_EXPONENT);
            }
            for (int step = 512; step > 0; step /= 2) {
                double power = powerOfTwo(step);
                if (left >= power) {
                    left = left / power;
                    exponent += step;
                }
            }
            return exponent;
        }

        private static double powerOfTwo(int n) {
            double power = 1.0;
            double factor = n < 0 ? 0.5 : 2.0;
            for (int left = n < 0 ? -n : n; left > 0; left /= 2) {
                if (left % 2 == 1) power = power * factor;
                factor = factor * factor;
            }
            return power;
        }

        private static double sizeOf(double value) {
            return value < 0.0 ? 0.0 - value : value;
        }

        private static double withSign(boolean minus, double size) {
            return minus ? size * -1.0 : size;
        }
    }
}
