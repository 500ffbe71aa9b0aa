import java.util.ArrayList;
import java.util.Arrays;
import java.util.List;

/** Each sentence of the document about refusals, tried with every call and every refusal that it names. */
public final class RefusalsAtTheirEdges extends Sentences {
    private interface Call {
        long on(OrreryWorks x);
    }

    /** A call that is refused on an object with some of everything, or with as many as there may be. */
    private static final class Refused {
        final String name;
        final int why;
        final boolean whenFull;
        final Call call;

        Refused(String name, int why, boolean whenFull, Call call) {
            this.name = name;
            this.why = why;
            this.whenFull = whenFull;
            this.call = call;
        }

        OrreryWorks before() {
            return whenFull ? withMost() : withSome();
        }

        boolean answersAnyNumber() {
            return List.of("turn", "wheelOf", "read", "kept", "show", "all").contains(name.substring(0, name.indexOf('(')));
        }

        public String toString() {
            return name + (whenFull ? " of a full object" : "");
        }
    }

    private static final long NO_NUMBER = 0x7FF8_0000_0000_0000L;
    private static final List<Refused> REFUSED = new ArrayList<>();
    private static final Refused ONE_BAD = new Refused("tear(5)", BAD, false, x -> x.tear(5));
    private static final Refused ONE_SPUN = new Refused("turn(0, endless)", SPUN, false, x -> x.turn(0, bits(ENDLESS)));

    public static void main(String[] args) {
        badOfWheelsAndRegisters();
        badOfTheOthers();
        full();
        named();
        refusals();
        order();
        often();
        refused();
        end();
    }

    private static void add(String name, int why, Call call) {
        REFUSED.add(new Refused(name, why, false, call));
    }

    private static void addFull(String name, int why, Call call) {
        REFUSED.add(new Refused(name, why, true, call));
    }

    /** Numbers beside 0 .. most, and far off. */
    private static int[] beside(int most) {
        return new int[] {-1, most + 1, -2, Integer.MIN_VALUE, Integer.MAX_VALUE};
    }

    private static void badOfWheelsAndRegisters() {
        for (int n : beside(1)) {
            add("turn(" + n + ", 1.0)", BAD, x -> x.turn(n, bits(1.0)));
            add("wheelOf(" + n + ", 0)", BAD, x -> x.wheelOf(n, 0));
            add("wheelOf(0, " + n + ")", BAD, x -> x.wheelOf(0, n));
            add("take(" + n + ", 0)", BAD, x -> x.take(n, 0));
            add("pointer(0, " + n + ")", BAD, x -> x.pointer(0, n));
        }
        for (int n : beside(3)) {
            add("wheel(" + n + ", 1.0)", BAD, x -> x.wheel(n, bits(1.0)));
            add("register(" + n + ")", BAD, x -> x.register(n));
            add("load(0, " + n + ", 0)", BAD, x -> x.load(0, n, 0));
            add("read(0, " + n + ")", BAD, x -> x.read(0, n));
        }
        for (int n : beside(4)) {
            add("load(" + n + ", 0, 0)", BAD, x -> x.load(n, 0, 0));
            add("read(" + n + ", 0)", BAD, x -> x.read(n, 0));
            add("move(" + n + ", 0)", BAD, x -> x.move(n, 0));
            add("move(0, " + n + ")", BAD, x -> x.move(0, n));
            add("take(0, " + n + ")", BAD, x -> x.take(0, n));
            add("work(" + n + ", 0, 1, 0)", BAD, x -> x.work(n, 0, 1, 0));
            add("work(0, " + n + ", 0, 0)", BAD, x -> x.work(0, n, 0, 0));
            add("work(0, 0, " + n + ", 0)", BAD, x -> x.work(0, 0, n, 0));
            add("work(0, 0, 0, " + n + ")", BAD, x -> x.work(0, 0, 0, n));
        }
        for (int kind : new int[] {INT, LONG}) add("wheel(" + kind + ", 1.0)", BAD, x -> x.wheel(kind, bits(1.0)));
        for (double turn : new double[] {0.0, -0.0, 0x1p-150}) add("wheel(2, " + turn + ")", BAD, x -> x.wheel(FLOAT, bits(turn)));
        for (double turn : new double[] {0.0, -0.0}) add("wheel(3, " + turn + ")", BAD, x -> x.wheel(DOUBLE, bits(turn)));
        add("wheel(2, no number)", BAD, x -> x.wheel(FLOAT, NO_NUMBER));
        add("wheel(3, no number)", BAD, x -> x.wheel(DOUBLE, NO_NUMBER));
        add("turn(0, no number)", BAD, x -> x.turn(0, NO_NUMBER));
        add("load(3, 3, no number)", BAD, x -> x.load(3, DOUBLE, NO_NUMBER));
        add("load(0, 2, no number)", BAD, x -> x.load(0, FLOAT, 0x7FC0_0000L));
    }

    private static void badOfTheOthers() {
        for (int n : beside(3)) {
            add("strip(" + n + ", 1)", BAD, x -> x.strip(n, 1));
            add("keep(0, " + n + ", 0, 0)", BAD, x -> x.keep(0, n, 0, 0));
            add("kept(0, " + n + ", 0)", BAD, x -> x.kept(0, n, 0));
            add("pointer(" + n + ", 0)", BAD, x -> x.pointer(n, 0));
            add("stand(" + n + ", 1)", BAD, x -> x.stand(n, 1));
            add("set(" + n + ", 0, 2)", BAD, x -> x.set(n, 0, VERNIER));
            add("hang(" + n + ", 0, 2)", BAD, x -> x.hang(n, 0, VERNIER));
            add("show(" + n + ", 0)", BAD, x -> x.show(n, 0));
            add("all(" + n + ")", BAD, x -> x.all(n));
            if (n == NONE) continue;
            add("set(0, 0, " + n + ")", BAD, x -> x.set(0, 0, n));
            add("hang(0, 0, " + n + ")", BAD, x -> x.hang(0, 0, n));
        }
        for (int n : beside(4)) {
            add("tear(" + n + ")", BAD, x -> x.tear(n));
            add("keep(" + n + ", 0, 0, 0)", BAD, x -> x.keep(n, 0, 0, 0));
            add("keep(0, 0, 0, " + n + ")", BAD, x -> x.keep(0, 0, 0, n));
            add("kept(" + n + ", 0, 0)", BAD, x -> x.kept(n, 0, 0));
            add("rests(" + n + ", 0)", BAD, x -> x.rests(n, 0));
            add("rests(3, " + n + ")", BAD, x -> x.rests(3, n));
        }
        for (int n : beside(16)) add("strip(0, " + n + ")", BAD, x -> x.strip(0, n));
        for (int n : beside(6)) add("stand(0, " + n + ")", BAD, x -> x.stand(0, n));
        add("stand(0, 0)", BAD, x -> x.stand(0, 0));
    }

    private static void full() {
        for (int kind = INT; kind <= DOUBLE; kind++) {
            int k = kind;
            if (k >= FLOAT) addFull("wheel(" + k + ", 1.0)", FULL, x -> x.wheel(k, bits(1.0)));
            addFull("register(" + k + ")", FULL, x -> x.register(k));
            addFull("strip(" + k + ", 0)", FULL, x -> x.strip(k, 0));
            addFull("pointer(" + k + ", 0)", FULL, x -> x.pointer(k, 0));
            addFull("stand(" + k + ", 1)", FULL, x -> x.stand(k, 1));
        }
    }

    private static void named() {
        for (double by : new double[] {ENDLESS, -ENDLESS, 1.0E300}) add("turn(0, " + by + ")", SPUN, x -> x.turn(0, bits(by)));
        for (int what = 3; what <= 4; what++) {
            int w = what;
            add("work(" + w + ", 0, 4, 1)", ZERO, x -> x.work(w, 0, 4, 1));
            add("work(" + w + ", 1, 4, 3)", ZERO, x -> x.work(w, 1, 4, 3));
        }
        add("work(4, 2, 4, 2)", VOID, x -> x.work(4, 2, 4, 2));
        add("work(4, 3, 4, 4)", VOID, x -> x.work(4, 3, 4, 4));
        for (int lane = INT; lane <= DOUBLE; lane++) {
            int l = lane, other = (lane + 1) % 4;
            add("keep(" + l + ", " + other + ", 0, 0)", CAST, x -> x.keep(l, other, 0, 0));
            add("kept(" + l + ", " + other + ", 1)", CAST, x -> x.kept(l, other, 1));
            add("keep(4, " + l + ", 0, 0)", NULL, x -> x.keep(4, l, 0, 0));
            add("kept(4, " + l + ", 0)", NULL, x -> x.kept(4, l, 0));
            for (int i : beside(2)) {
                add("keep(" + l + ", " + l + ", " + i + ", 0)", INDEX, x -> x.keep(l, l, i, 0));
                add("kept(" + l + ", " + l + ", " + i + ")", INDEX, x -> x.kept(l, l, i));
            }
            if (l < FLOAT) add("rests(" + l + ", 0)", CAST, x -> x.rests(l, 0));
            add("show(" + l + ", 1)", NULL, x -> x.show(l, 1));
            for (int i : beside(1)) {
                if (l != OF_SHOWING) add("set(" + l + ", " + i + ", 2)", INDEX, x -> x.set(l, i, VERNIER));
                add("hang(" + l + ", " + i + ", 2)", INDEX, x -> x.hang(l, i, VERNIER));
                add("show(" + l + ", " + i + ")", INDEX, x -> x.show(l, i));
            }
            add("set(" + l + ", 0, 3)", CAST, x -> x.set(l, 0, LAMP));
            add("set(3, 0, " + l + ")", CAST, x -> x.set(OF_SHOWING, 0, l));
            if (l != OF_SHOWING) add("hang(" + l + ", 0, 3)", STORE, x -> x.hang(l, 0, LAMP));
        }
        add("rests(4, 0)", NULL, x -> x.rests(4, 0));
        add("set(3, 0, NONE)", CAST, x -> x.set(OF_SHOWING, 0, NONE));
        add("set(1, 0, 0)", STORE, x -> x.set(OF_FINE, 0, COARSE));
        add("set(2, 0, 0)", STORE, x -> x.set(OF_VERNIERS, 0, COARSE));
        add("set(2, 0, 1)", STORE, x -> x.set(OF_VERNIERS, 0, FINE));
        add("hang(1, 0, 0)", STORE, x -> x.hang(OF_FINE, 0, COARSE));
        add("hang(2, 0, 1)", STORE, x -> x.hang(OF_VERNIERS, 0, FINE));
    }

    /** All that an object tells of itself but its refusals; some 270 calls, so that it stays below the 512. */
    private static long[] state(OrreryWorks x) {
        List<Long> told = new ArrayList<>();
        int[] counts = new int[5];
        for (int what = 0; what < 5; what++) counts[what] = x.count(what);
        for (int count : counts) told.add((long) count);
        for (int wheel = 0; wheel < counts[0]; wheel++) for (int what = 0; what < 2; what++) told.add(x.wheelOf(wheel, what));
        for (int register = 0; register < counts[1]; register++) for (int kind = INT; kind <= DOUBLE; kind++) told.add(x.read(register, kind));
        for (int strip = 0; strip < counts[2]; strip++) for (int lane = INT; lane <= DOUBLE; lane++) {
            for (int i = 0; i < 3; i++) told.add(x.kept(strip, lane, i));
            told.add((long) x.refused());
        }
        for (int stand = 0; stand < counts[4]; stand++) {
            for (int i = 0; i < 3; i++) {
                told.add(x.show(stand, i));
                told.add((long) x.refused());
            }
            told.add(x.all(stand));
        }
        return told.stream().mapToLong(Long::longValue).toArray();
    }

    private static void refusals() {
        sentence("Refusals change nothing", () -> {
            for (Refused one : REFUSED) {
                OrreryWorks x = one.before();
                one.call.on(x);
                due("whether all is as before " + one, Arrays.equals(state(x), state(one.before())) ? 1 : 0, 1);
            }
        });
        sentence("but are counted by their kinds (all but BAD)", () -> {
            for (Refused one : REFUSED) {
                OrreryWorks x = one.before();
                int[] before = new int[9];
                for (int why = NULL; why <= BAD; why++) before[-2 - why] = x.often(why);
                one.call.on(x);
                one.call.on(x);
                for (int why = NULL; why <= BAD; why++) {
                    due("often(" + why + ") after twice " + one, x.often(why) - before[-2 - why], why == one.why && why != BAD ? 2 : 0);
                }
            }
        });
        sentence("BAD (no such, or a number is not as told)", () -> {
            for (Refused one : REFUSED) if (one.why == BAD) dueRefusal(one);
        });
        for (int why = FULL; why >= NULL; why--) {
            int w = why;
            sentence("Refusals .. by their kinds: " + why, () -> {
                for (Refused one : REFUSED) if (one.why == w) dueRefusal(one);
            });
        }
        sentence("A call that answers any number answers 0 then;", () -> {
            for (Refused one : REFUSED) if (one.answersAnyNumber()) due(one.toString(), one.call.on(one.before()), 0);
        });
        sentence("refused() tells.", () -> {
            for (Refused one : REFUSED) {
                OrreryWorks x = one.before();
                one.call.on(x);
                due("refused() after " + one, x.refused(), one.why);
            }
        });
    }

    private static void dueRefusal(Refused one) {
        OrreryWorks x = one.before();
        due(one.toString(), one.call.on(x), one.answersAnyNumber() ? 0 : one.why);
        due("refused() after " + one, x.refused(), one.why);
    }

    private static void dueFirst(String what, OrreryWorks x, int why, Call call) {
        call.on(x);
        due("refused() after " + what, x.refused(), why);
    }

    private static void order() {
        sentence("BAD .., then FULL", () -> {
            OrreryWorks x = withMost();
            dueFirst("a wheel of no kind", x, BAD, y -> y.wheel(LONG, bits(1.0)));
            dueFirst("a wheel of no number", x, BAD, y -> y.wheel(DOUBLE, NO_NUMBER));
            dueFirst("a wheel of 0", x, BAD, y -> y.wheel(DOUBLE, 0));
            dueFirst("a wheel of 0 then", x, BAD, y -> y.wheel(FLOAT, bits(0x1p-150)));
            dueFirst("a register of no kind", x, BAD, y -> y.register(4));
            dueFirst("a strip of no lane", x, BAD, y -> y.strip(-1, 0));
            dueFirst("a strip with too many places", x, BAD, y -> y.strip(0, 17));
            dueFirst("a strip with too few", x, BAD, y -> y.strip(0, -1));
            dueFirst("a pointer of no sort", x, BAD, y -> y.pointer(4, 0));
            dueFirst("a pointer of no wheel", x, BAD, y -> y.pointer(0, 10));
            dueFirst("a stand of no sort", x, BAD, y -> y.stand(4, 1));
            dueFirst("a stand with too many places", x, BAD, y -> y.stand(0, 7));
            dueFirst("a stand with too few", x, BAD, y -> y.stand(0, 0));
            due("FULL", x.often(FULL), 0);
        });
        sentence("BAD .., then those that a call names", () -> {
            OrreryWorks x = withSome();
            dueFirst("SPUN, no wheel", x, BAD, y -> y.turn(2, bits(ENDLESS)));
            dueFirst("ZERO, no third register", x, BAD, y -> y.work(3, 0, 4, 5));
            dueFirst("ZERO, no such work", x, BAD, y -> y.work(5, 0, 4, 0));
            dueFirst("VOID, no third register", x, BAD, y -> y.work(4, 3, 4, -1));
            dueFirst("CAST, no register (keep)", x, BAD, y -> y.keep(0, LONG, 0, 5));
            dueFirst("NULL, no register (keep)", x, BAD, y -> y.keep(4, FLOAT, 0, 5));
            dueFirst("NULL, no lane (keep)", x, BAD, y -> y.keep(4, 4, 0, 0));
            dueFirst("INDEX, no register (keep)", x, BAD, y -> y.keep(0, INT, 3, 5));
            dueFirst("NULL, no lane (kept)", x, BAD, y -> y.kept(4, -1, 0));
            dueFirst("INDEX, no lane (kept)", x, BAD, y -> y.kept(0, 4, 3));
            dueFirst("CAST, no register (rests)", x, BAD, y -> y.rests(0, 5));
            dueFirst("NULL, no register (rests)", x, BAD, y -> y.rests(4, 5));
            dueFirst("CAST, no pointer (set)", x, BAD, y -> y.set(OF_SHOWING, 0, 4));
            dueFirst("CAST, no stand (set)", x, BAD, y -> y.set(4, 0, LAMP));
            dueFirst("INDEX, no pointer (set)", x, BAD, y -> y.set(OF_HANDS, 2, 4));
            dueFirst("INDEX, no pointer (hang)", x, BAD, y -> y.hang(OF_HANDS, 2, -2));
            dueFirst("INDEX, no stand (hang)", x, BAD, y -> y.hang(-1, 2, LAMP));
            dueFirst("INDEX, no stand (show)", x, BAD, y -> y.show(4, 9));
        });
        sentence("then those that a call names, in their order", () -> {
            OrreryWorks x = withSome();
            dueFirst("CAST, INDEX (keep)", x, CAST, y -> y.keep(0, LONG, 3, 0));
            dueFirst("CAST, INDEX (kept)", x, CAST, y -> y.kept(3, FLOAT, -1));
            dueFirst("NULL, INDEX (keep)", x, NULL, y -> y.keep(4, FLOAT, 3, 0));
            dueFirst("NULL, INDEX (kept)", x, NULL, y -> y.kept(4, FLOAT, -1));
            dueFirst("CAST of the stand, INDEX (set)", x, CAST, y -> y.set(OF_SHOWING, 2, COARSE));
            dueFirst("CAST of the pointer, INDEX (set)", x, CAST, y -> y.set(OF_HANDS, 2, LAMP));
            dueFirst("CAST of the stand, INDEX, nothing (set)", x, CAST, y -> y.set(OF_SHOWING, -1, NONE));
            dueFirst("CAST, STORE (set)", x, CAST, y -> y.set(OF_VERNIERS, 0, LAMP));
            dueFirst("CAST, INDEX, STORE (set)", x, CAST, y -> y.set(OF_VERNIERS, 2, LAMP));
            dueFirst("INDEX, STORE (set)", x, INDEX, y -> y.set(OF_VERNIERS, 2, COARSE));
            dueFirst("INDEX, STORE (hang)", x, INDEX, y -> y.hang(OF_HANDS, -1, LAMP));
        });
        sentence("CAST: it is of another LANE (GONE ones are of none); NULL: it is GONE", () -> {
            OrreryWorks x = withSome();
            x.tear(INT);
            x.tear(LONG);
            for (int strip : new int[] {INT, LONG, 4}) {
                for (int lane = INT; lane <= DOUBLE; lane++) {
                    int l = lane;
                    dueFirst("keep, lane " + lane, x, NULL, y -> y.keep(strip, l, 0, 0));
                    dueFirst("kept, lane " + lane, x, NULL, y -> y.kept(strip, l, 0));
                }
                dueFirst("rests", x, NULL, y -> y.rests(strip, 0));
            }
            due("CAST", x.often(CAST), 0);
        });
    }

    private static void often() {
        sentence("How often a refusal (FULL .. NULL) came.", () -> {
            OrreryWorks x = withMost();
            int[] due = new int[11];
            for (Refused one : REFUSED) {
                if (one.why == BAD || one.whenFull) continue;
                one.call.on(x);
                due[-one.why]++;
            }
            for (int i = 0; i < 3; i++) x.register(INT);
            due[-FULL] = 3;
            for (int why = FULL; why >= NULL; why--) due("often(" + why + ")", x.often(why), due[-why]);
            OrreryWorks y = new OrreryWorks();
            for (int why = FULL; why >= NULL; why--) due("often(" + why + ") of a new one", y.often(why), 0);
        });
        sentence("0 of another number.", () -> {
            for (Refused one : REFUSED) {
                OrreryWorks x = one.before();
                one.call.on(x);
                for (int other : new int[] {BAD, NONE, 0, 1, 2, 3, 10, NULL - 1, NULL - 2, Integer.MIN_VALUE, Integer.MIN_VALUE + 1, Integer.MAX_VALUE}) {
                    due("often(" + other + ") after " + one, x.often(other), 0);
                }
            }
        });
    }

    private static void refused() {
        sentence("Why the latest call .. was refused", () -> {
            for (Refused earlier : REFUSED) {
                if (earlier.whenFull) continue;
                OrreryWorks x = withSome();
                for (Refused one : List.of(earlier, ONE_BAD, earlier, ONE_SPUN, earlier)) {
                    one.call.on(x);
                    due("refused() after " + one, x.refused(), one.why);
                }
            }
        });
        sentence("the latest call but count(), often(), refused()", () -> {
            for (Refused one : REFUSED) {
                OrreryWorks x = one.before();
                one.call.on(x);
                for (int what = -1; what <= 5; what++) x.count(what);
                due("refused() after count() after " + one, x.refused(), one.why);
                for (int why = NULL - 1; why <= 0; why++) x.often(why);
                due("refused() after often() after " + one, x.refused(), one.why);
                due("refused() after refused() after " + one, x.refused(), one.why);
            }
            OrreryWorks y = new OrreryWorks();
            due("a BAD count()", y.count(5), BAD);
            due("is not told", y.refused(), 0);
        });
        sentence("0: it was not.", () -> {
            due("a new object", new OrreryWorks().refused(), 0);
            Call[] going = {
                x -> x.wheel(FLOAT, bits(1.0)), x -> x.turn(0, 0), x -> x.wheelOf(0, 0), x -> x.register(INT), x -> x.load(0, INT, 0),
                x -> x.read(4, INT), x -> x.move(0, 1), x -> x.move(3, 0), x -> x.take(0, 0), x -> x.work(0, 0, 1, 2), x -> x.work(0, 2, 3, 2),
                x -> x.strip(INT, 0), x -> x.tear(0), x -> x.tear(4), x -> x.keep(0, INT, 0, 0), x -> x.kept(0, INT, 0), x -> x.rests(3, 0),
                x -> x.pointer(COARSE, 0), x -> x.stand(OF_HANDS, 1), x -> x.set(0, 1, NONE), x -> x.hang(3, 1, LAMP), x -> x.show(0, 0), x -> x.all(0)};
            for (int i = 0; i < going.length; i++) {
                OrreryWorks x = withSome();
                x.show(0, 1);
                due("NULL at first", x.refused(), NULL);
                going[i].on(x);
                due("refused() after going call " + i, x.refused(), 0);
            }
        });
    }
}
