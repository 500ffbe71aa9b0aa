/** Each sentence of promises 1 to 22 that names a boundary case, with a test of its own; 23 and 24 stand with the refusals. */
public final class PromisesAtTheirEdges extends Sentences {
    public static void main(String[] args) {
        newObject();
        wheels();
        registers();
        moves();
        strips();
        rests();
        pointersAndStands();
        puts();
        shows();
        counts();
        end();
    }

    private static void newObject() {
        sentence("1: Nothing.", () -> {
            OrreryWorks x = new OrreryWorks();
            for (int what = 0; what <= 4; what++) due("count(" + what + ")", x.count(what), 0);
            for (int why = NULL; why <= BAD; why++) due("often(" + why + ")", x.often(why), 0);
            due("refused()", x.refused(), 0);
            dueNothing(x, "wheel 0", x.wheelOf(0, 0), BAD);
            dueNothing(x, "register 0", x.read(0, 0), BAD);
            due("strip 0", x.tear(0), BAD);
            dueNothing(x, "stand 0", x.all(0), BAD);
            x.stand(OF_SHOWING, 1);
            due("pointer 0", x.hang(0, 0, 0), BAD);
        });
        sentence("1: Nothing. (of what another object has)", () -> {
            OrreryWorks full = withMost();
            OrreryWorks x = new OrreryWorks();
            due("wheel 0", x.wheel(DOUBLE, bits(1.0)), 0);
            due("register 0", x.register(INT), 0);
            due("strip 0", x.strip(INT, 0), 0);
            due("pointer 0", x.pointer(COARSE, 0), 0);
            due("stand 0", x.stand(OF_HANDS, 1), 0);
            due("the other one stays full", full.register(INT), FULL);
            due("which is not counted here", x.often(FULL), 0);
        });
    }

    private static void wheels() {
        sentence("2: TURN told by BITS of a double, CAST to it: its number.", () -> {
            OrreryWorks x = new OrreryWorks();
            due("a float by the bits of a double", x.wheel(FLOAT, bits(0.1)), 0);
            due("cast", x.wheelOf(0, 1), bits(0.1f));
            due("too large for a float", x.wheel(FLOAT, bits(-0x1.ffffffp127)), 1);
            due("endless", x.wheelOf(1, 1), bits(Float.NEGATIVE_INFINITY));
            due("just not too large", x.wheel(FLOAT, bits(0x1.fffffefffffffp127)), 2);
            due("the greatest", x.wheelOf(2, 1), bits(Float.MAX_VALUE));
            due("a double", x.wheel(DOUBLE, bits(-0x1.ffffffp127)), 3);
            due("as it is", x.wheelOf(3, 1), bits(-0x1.ffffffp127));
            due("as it is, the greatest", x.wheel(DOUBLE, bits(Double.MAX_VALUE)), 4);
            due("the bits of a float are those of a very small double", x.wheel(FLOAT, bits(1.5f)), BAD);
        });
        sentence("2: BAD: also a TURN that is 0 then;", () -> {
            OrreryWorks x = new OrreryWorks();
            double[] zeros = {0x1p-150, -0x1p-150, Double.MIN_VALUE, -Double.MIN_VALUE, 0x1p-1022, 1.0E-46};
            for (double zero : zeros) due(zero + " is 0 as a float", x.wheel(FLOAT, bits(zero)), BAD);
            due("none was made", x.count(0), 0);
            due("just not 0 as a float", x.wheel(FLOAT, bits(-0x1.0000000000001p-150)), 0);
            due("the least", x.wheelOf(0, 1), bits(-Float.MIN_VALUE));
            for (int i = 0; i < zeros.length; i++) due(zeros[i] + " is not 0 as a double", x.wheel(DOUBLE, bits(zeros[i])), i + 1);
        });
        sentence("2: FULL.", () -> {
            OrreryWorks x = new OrreryWorks();
            for (int i = 0; i < 9; i++) x.wheel(DOUBLE, bits(1.0));
            x.wheel(DOUBLE, bits(0.0));
            due("a BAD one takes no place", x.wheel(DOUBLE, bits(1.0)), 9);
            due("ten are there", x.wheel(FLOAT, bits(1.0)), FULL);
            due("FULL again", x.wheel(DOUBLE, bits(ENDLESS)), FULL);
            due("counted", x.often(FULL), 2);
        });
        sentence("3: A WHEEL is TURNED by a double, told by BITS: TURNS. (Any number.)", () -> {
            for (int turns = NULL; turns <= 1; turns++) {
                OrreryWorks x = withWheels(DOUBLE, 1.0);
                x.wheel(FLOAT, bits(-1.0));
                dueNumber(x, "turns", x.turn(0, bits((double) turns)), turns);
                dueNumber(x, "turns of floats", x.turn(1, bits((double) -turns)), turns);
            }
        });
        sentence("3: BAD; SPUN.", () -> {
            OrreryWorks x = withWheels(DOUBLE, 1.0);
            dueNothing(x, "no such wheel", x.turn(1, bits(1.0)), BAD);
            dueNothing(x, "no number", x.turn(0, bits(Double.NaN)), BAD);
            due("not counted", x.often(SPUN), 0);
            dueNothing(x, "endless", x.turn(0, bits(-ENDLESS)), SPUN);
            due("counted", x.often(SPUN), 1);
        });
        sentence("4: THE BITS of the POSITION (what = 0), the TURN (1) of a WHEEL. (Any number.) BAD.", () -> {
            OrreryWorks x = withWheels(DOUBLE, ENDLESS, 4.0);
            x.wheel(FLOAT, bits(-ENDLESS));
            x.turn(0, 0x8000_0000_0000_0000L | 1L);
            dueNumber(x, "the least below 0", x.wheelOf(0, 0), Long.MIN_VALUE + 1);
            x.turn(2, bits(-0x1p-149));
            dueNumber(x, "the least float below 0", x.wheelOf(2, 0), Integer.MIN_VALUE + 1);
            dueNumber(x, "endless turn", x.wheelOf(2, 1), 0xFFFF_FFFF_FF80_0000L);
            x.turn(1, bits(-8.0));
            dueNumber(x, "-0.0", x.wheelOf(1, 0), Long.MIN_VALUE);
            for (int what : new int[] {-1, 2, Integer.MIN_VALUE, Integer.MAX_VALUE}) dueNothing(x, "what = " + what, x.wheelOf(0, what), BAD);
            for (int wheel : new int[] {-1, 3, 10, Integer.MIN_VALUE}) dueNothing(x, "wheel " + wheel, x.wheelOf(wheel, 1), BAD);
        });
    }

    private static void registers() {
        sentence("5: A REGISTER of a KIND: its number. BAD; FULL.", () -> {
            OrreryWorks x = new OrreryWorks();
            for (int i = 0; i < 16; i++) {
                due("kind -1", x.register(-1), BAD);
                due("kind 4", x.register(4), BAD);
                due("number", x.register(3 - i % 4), i);
            }
            due("FULL", x.register(DOUBLE), FULL);
            due("FULL again", x.register(INT), FULL);
            due("counted", x.often(FULL), 2);
        });
        sentence("6: told by BITS (of int, float the lowest 32)", () -> {
            OrreryWorks x = withRegisters(LONG, DOUBLE);
            long[] aboves = {0, 1L << 32, 0x7FFF_FFFFL << 32, -1L << 32, 1L << 63};
            for (long above : aboves) {
                due("int", x.load(0, INT, above | 0x8000_0000L), 1);
                due("the least int", x.read(0, LONG), Integer.MIN_VALUE);
                due("int", x.load(0, INT, above | 0x7FFF_FFFFL), 1);
                due("the greatest int", x.read(0, LONG), Integer.MAX_VALUE);
                due("float", x.load(1, FLOAT, above | 0x8000_0001L), 1);
                due("the least float below 0", x.read(1, DOUBLE), bits(-0x1p-149));
                due("float", x.load(1, FLOAT, above | 0x7F80_0000L), 1);
                due("endless", x.read(1, DOUBLE), bits(ENDLESS));
                due("no float", x.load(1, FLOAT, above | 0x7F80_0001L), BAD);
            }
            due("a long by all 64", x.load(0, LONG, 1L << 32), 1);
            due("of which the lowest 32 are 0", x.read(0, LONG), 1L << 32);
            due("a double by all 64", x.load(1, DOUBLE, 0x7FEF_FFFF_7FC0_0000L), 1);
            due("of which the lowest 32 would be no float", x.read(1, DOUBLE), 0x7FEF_FFFF_7FC0_0000L);
        });
        sentence("6: A REGISTER holds a value of a KIND, .. CAST: 1. BAD.", () -> {
            OrreryWorks x = withRegisters(INT);
            due("a value told as a double", x.load(0, DOUBLE, bits(-1.0E10)), 1);
            due("held as an int", x.read(0, DOUBLE), bits(-2147483648.0));
            due("no register", x.load(1, INT, 0), BAD);
            due("no kind", x.load(0, 4, 0), BAD);
            due("no number", x.load(0, DOUBLE, -1), BAD);
            due("nothing changed", x.read(0, INT), Integer.MIN_VALUE);
        });
        sentence("7: THE BITS of a REGISTER's value CAST to a KIND. (Any number.) BAD.", () -> {
            OrreryWorks x = withRegisters(LONG);
            for (long value = NULL; value <= 0; value++) {
                x.load(0, LONG, value);
                dueNumber(x, "as a long", x.read(0, LONG), value);
                dueNumber(x, "as an int", x.read(0, INT), value);
                dueNumber(x, "as a float", x.read(0, FLOAT), bits((float) value));
                dueNumber(x, "as a double", x.read(0, DOUBLE), bits((double) value));
            }
            x.load(0, LONG, Long.MIN_VALUE);
            dueNumber(x, "read it changes nothing", x.read(0, INT), 0);
            dueNumber(x, "the least long", x.read(0, LONG), Long.MIN_VALUE);
            dueNothing(x, "no kind", x.read(0, 4), BAD);
            dueNothing(x, "no register", x.read(1, LONG), BAD);
        });
    }

    private static void moves() {
        sentence("8: A REGISTER holds another one's value, CAST: whether that, CAST back, has the BITS of the other one's: 1, 0.", () -> {
            dueMoved("the greatest int to a float comes back by its end", INT, Integer.MAX_VALUE, FLOAT, bits(0x1p31f), 1);
            dueMoved("one less does not", INT, Integer.MAX_VALUE - 1, FLOAT, bits(0x1p31f), 0);
            dueMoved("the greatest long to a double comes back by its end", LONG, Long.MAX_VALUE, DOUBLE, bits(0x1p63), 1);
            dueMoved("one less does not", LONG, Long.MAX_VALUE - 1, DOUBLE, bits(0x1p63), 0);
            dueMoved("2 to the 24th", INT, 16777216, FLOAT, bits(16777216.0f), 1);
            dueMoved("and one more", INT, 16777217, FLOAT, bits(16777216.0f), 0);
            dueMoved("any int to a double", INT, Integer.MIN_VALUE, DOUBLE, bits(-2147483648.0), 1);
            dueMoved("a long that is an int", LONG, Integer.MIN_VALUE, INT, Integer.MIN_VALUE, 1);
            dueMoved("a long that is just none", LONG, Integer.MIN_VALUE - 1L, INT, Integer.MAX_VALUE, 0);
            dueMoved("-0.0 to an int comes back as 0.0", DOUBLE, bits(-0.0), INT, 0, 0);
            dueMoved("-0.0f to a long, too", FLOAT, bits(-0.0f), LONG, 0, 0);
            dueMoved("0.0 to an int", DOUBLE, bits(0.0), INT, 0, 1);
            dueMoved("-0.0 to a float", DOUBLE, bits(-0.0), FLOAT, bits(-0.0f), 1);
            dueMoved("endless to a float", DOUBLE, bits(ENDLESS), FLOAT, bits(Float.POSITIVE_INFINITY), 1);
            dueMoved("too large for a float", DOUBLE, bits(0x1.ffffffp127), FLOAT, bits(Float.POSITIVE_INFINITY), 0);
            dueMoved("too small for a float", DOUBLE, bits(0x1p-150), FLOAT, bits(0.0f), 0);
            dueMoved("the least float", DOUBLE, bits(0x1p-149), FLOAT, 1, 1);
            dueMoved("endless to a long", FLOAT, bits(Float.NEGATIVE_INFINITY), LONG, Long.MIN_VALUE, 0);
            dueMoved("2 to the 63rd to a long comes back from its end", FLOAT, bits(0x1p63f), LONG, Long.MAX_VALUE, 1);
            dueMoved("2 to the 31st as a double does not from that of the ints", DOUBLE, bits(0x1p31), INT, Integer.MAX_VALUE, 0);
            dueMoved("any float to a double", FLOAT, bits(-Float.MIN_VALUE), DOUBLE, bits(-0x1p-149), 1);
            OrreryWorks x = withRegisters(FLOAT);
            x.load(0, FLOAT, bits(-0.0f));
            due("to itself", x.move(0, 0), 1);
            due("itself still", x.read(0, FLOAT), bits(-0.0f));
        });
        sentence("8: BAD.", () -> {
            OrreryWorks x = withRegisters(INT, LONG);
            due("from no register", x.move(2, 0), BAD);
            due("to no register", x.move(0, 2), BAD);
            due("from and to none", x.move(-1, -1), BAD);
            due("told", x.refused(), BAD);
        });
        sentence("9: A REGISTER holds a WHEEL's POSITION, CAST: 1. BAD.", () -> {
            OrreryWorks x = withWheels(DOUBLE, ENDLESS, 2.0);
            for (int kind = INT; kind <= DOUBLE; kind++) x.register(kind);
            x.turn(0, bits(-Double.MAX_VALUE));
            x.turn(1, bits(-4.0));
            long[] dues = {Integer.MIN_VALUE, Long.MIN_VALUE, bits(Float.NEGATIVE_INFINITY), bits(-Double.MAX_VALUE)};
            long[] zeros = {0, 0, bits(-0.0f), bits(-0.0)};
            for (int kind = INT; kind <= DOUBLE; kind++) {
                due("take", x.take(0, kind), 1);
                due("the least as kind " + kind, x.read(kind, kind), dues[kind]);
                due("take", x.take(1, kind), 1);
                due("-0.0 as kind " + kind, x.read(kind, kind), zeros[kind]);
            }
            due("no wheel", x.take(2, 0), BAD);
            due("no register", x.take(0, 4), BAD);
        });
        sentence("10: What = 0 .. 4: two REGISTERS are WORKED into a third one: 1. BAD; ZERO; VOID.", () -> {
            OrreryWorks x = withRegisters(INT, INT, DOUBLE);
            x.load(0, INT, 6);
            for (int what = 0; what <= 4; what++) due("what = " + what, x.work(what, 0, 0, 2), 1);
            due("what = -1", x.work(-1, 0, 0, 2), BAD);
            due("what = 5", x.work(5, 0, 0, 2), BAD);
            due("BAD, not ZERO", x.work(5, 0, 1, 2), BAD);
            due("ZERO", x.work(3, 0, 1, 2), ZERO);
            due("ZERO", x.work(4, 1, 1, 2), ZERO);
            due("VOID: the rest of nothing by nothing", x.work(4, 2, 2, 2), VOID);
            due("VOID: nothing by nothing", x.work(3, 2, 1, 0), VOID);
            due("the first stays", x.read(0, INT), 6);
        });
    }

    private static void dueMoved(String what, int from, long bits, int to, long want, int back) {
        OrreryWorks x = withRegisters(from, to);
        x.load(0, from, bits);
        due(what, x.move(0, 1), back);
        dueNumber(x, what + ": moved", x.read(1, to), want);
        dueNumber(x, what + ": the other one stays", x.read(0, from), bits);
    }

    private static void strips() {
        sentence("11: A STRIP of a LANE with n PLACES: its number. BAD; FULL.", () -> {
            OrreryWorks x = new OrreryWorks();
            for (int i = 0; i < 8; i++) {
                due("-1 places", x.strip(INT, -1), BAD);
                due("17 places", x.strip(INT, 17), BAD);
                due("lane 4", x.strip(4, 0), BAD);
                due("number", x.strip(i % 4, i % 2 * 16), i);
            }
            for (int strip = 0; strip < 8; strip++) x.tear(strip);
            due("FULL, though all are GONE", x.strip(INT, 0), FULL);
            due("counted", x.often(FULL), 1);
        });
        sentence("12: A STRIP is GONE: 1; 0: it was. BAD.", () -> {
            OrreryWorks x = withStrips(0, INT, DOUBLE);
            due("with no places", x.tear(0), 1);
            dueNumber(x, "it was", x.tear(0), 0);
            dueNumber(x, "it was, again", x.tear(0), 0);
            due("the other one was not", x.tear(1), 1);
            due("no strip", x.tear(2), BAD);
            due("no strip -1", x.tear(-1), BAD);
        });
        sentence("13: PLACE i of a STRIP, taken as a row of a LANE, gets a REGISTER's value, CAST to the LANE: 1.", () -> {
            OrreryWorks x = withRegisters(DOUBLE);
            for (int lane = INT; lane <= DOUBLE; lane++) x.strip(lane, 16);
            long[] dues = {Integer.MAX_VALUE, Long.MAX_VALUE, bits(Float.POSITIVE_INFINITY), bits(Double.MAX_VALUE)};
            loadDouble(x, 0, Double.MAX_VALUE);
            for (int lane = INT; lane <= DOUBLE; lane++) {
                due("the first place", x.keep(lane, lane, 0, 0), 1);
                due("the last place", x.keep(lane, lane, 15, 0), 1);
                for (int i = 0; i < 16; i++) due("place " + i, x.kept(lane, lane, i), i % 15 == 0 ? dues[lane] : 0);
            }
            loadDouble(x, 0, 1.0);
            due("what is kept does not go with the register", x.kept(DOUBLE, DOUBLE, 0), bits(Double.MAX_VALUE));
        });
        sentence("13: CAST: it is of another LANE (GONE ones are of none)", () -> {
            OrreryWorks x = withRegisters(INT);
            for (int lane = INT; lane <= DOUBLE; lane++) x.strip(lane, 1);
            for (int strip = INT; strip <= DOUBLE; strip++) {
                for (int lane = INT; lane <= DOUBLE; lane++) due(strip + " as " + lane, x.keep(strip, lane, 0, 0), strip == lane ? 1 : CAST);
                x.tear(strip);
                for (int lane = INT; lane <= DOUBLE; lane++) due(strip + " as " + lane + ", GONE", x.keep(strip, lane, 0, 0), NULL);
            }
        });
        sentence("13: NULL: it is GONE; INDEX.", () -> {
            OrreryWorks x = withRegisters(INT);
            x.strip(INT, 0);
            x.strip(INT, 2);
            for (int i : new int[] {-1, 0, 1, Integer.MIN_VALUE, Integer.MAX_VALUE}) due("place " + i + " of none", x.keep(0, INT, i, 0), INDEX);
            for (int i : new int[] {-1, 2, Integer.MIN_VALUE, Integer.MAX_VALUE}) due("place " + i + " of two", x.keep(1, INT, i, 0), INDEX);
            x.tear(0);
            x.tear(1);
            for (int i : new int[] {-1, 0, 2, Integer.MAX_VALUE}) due("place " + i + " of one that is GONE", x.keep(1, INT, i, 0), NULL);
        });
        sentence("14: THE BITS at PLACE i of a STRIP, taken likewise. (Any number.)", () -> {
            OrreryWorks x = withRegisters(LONG);
            for (int lane = INT; lane <= DOUBLE; lane++) x.strip(lane, 1);
            for (long value = NULL; value <= 0; value++) {
                x.load(0, LONG, value);
                long[] dues = {value, value, bits((float) value), bits((double) value)};
                for (int lane = INT; lane <= DOUBLE; lane++) {
                    x.keep(lane, lane, 0, 0);
                    dueNumber(x, value + " on lane " + lane, x.kept(lane, lane, 0), dues[lane]);
                }
            }
        });
        sentence("14: BAD; CAST; NULL; INDEX.", () -> {
            OrreryWorks x = withStrips(2, INT, DOUBLE);
            dueNothing(x, "no strip", x.kept(2, INT, 0), BAD);
            dueNothing(x, "no lane", x.kept(0, 4, 0), BAD);
            dueNothing(x, "another lane", x.kept(0, DOUBLE, 0), CAST);
            dueNothing(x, "place 2", x.kept(0, INT, 2), INDEX);
            dueNothing(x, "place -1", x.kept(1, DOUBLE, -1), INDEX);
            x.tear(0);
            dueNothing(x, "GONE", x.kept(0, INT, 0), NULL);
            dueNothing(x, "GONE, another lane", x.kept(0, DOUBLE, 0), NULL);
            dueNothing(x, "GONE, no place", x.kept(0, INT, 2), NULL);
            due("each counted", x.often(CAST) * 100 + x.often(NULL) * 10 + x.often(INDEX), 132);
        });
    }

    private static void rests() {
        sentence("15: A REGISTER holds the rest of each PLACE of a STRIP .. by the next one", () -> {
            dueRests("no places", 0, 0.0);
            dueRests("one place, which has no next", 0, 0.0, 5.0);
            dueRests("two", 1, 1.0, 7.0, 3.0);
            dueRests("the last by none, not by the first", 2, 1.0 + 3.0, 7.0, 3.0, 5.0);
            dueRests("sixteen", 15, 8.0, 1, 2, 1, 2, 1, 2, 1, 2, 1, 2, 1, 2, 1, 2, 1, 2);
            dueRests("below 0", 2, -1.0 + 3.0, -7.0, 3.0, -5.0);
        });
        sentence("15: the rests added, from 0.0 on,", () -> {
            dueRests("a rest of -0.0", 1, 0.0, -6.0, 3.0);
            dueRests("two rests of -0.0", 2, 0.0, -6.0, -3.0, 3.0);
            dueRests("those of other signs", 2, 2.5 - 0.5, 2.5, -3.5, 3.0);
        });
        sentence("15: .. in its KIND, CAST", () -> {
            OrreryWorks x = withRegisters(DOUBLE, INT, LONG, FLOAT);
            x.strip(FLOAT, 4);
            x.strip(DOUBLE, 4);
            fill(x, FLOAT, 0, 0.25, 16777216.0, 33554432.0, 3.0);
            fill(x, DOUBLE, 1, 0.25, 16777216.0, 33554432.0, 3.0);
            due("floats, into a double", x.rests(0, 0), 3);
            due("added as floats", x.read(0, DOUBLE), bits((double) (0.25f + 16777216.0f + 33554432.0f % 3.0f)));
            due("doubles", x.rests(1, 0), 3);
            due("added as doubles", x.read(0, DOUBLE), bits(0.25 + 16777216.0 + 33554432.0 % 3.0));
            due("doubles into a float", x.rests(1, 3), 3);
            due("cast at last", x.read(3, FLOAT), bits((float) (0.25 + 16777216.0 + 33554432.0 % 3.0)));
            fill(x, FLOAT, 0, Float.MAX_VALUE, ENDLESS, Float.MAX_VALUE, ENDLESS);
            due("floats, whose sum is endless", x.rests(0, 0), 2);
            due("endless", x.read(0, DOUBLE), bits(ENDLESS));
            due("endless into an int", x.rests(0, 1), 2);
            due("the greatest", x.read(1, INT), Integer.MAX_VALUE);
            fill(x, DOUBLE, 1, -Float.MAX_VALUE, ENDLESS, -Float.MAX_VALUE, ENDLESS);
            due("doubles, whose sum is not", x.rests(1, 0), 2);
            due("not endless", x.read(0, DOUBLE), bits(-2.0 * Float.MAX_VALUE));
            due("into a long", x.rests(1, 2), 2);
            due("the least", x.read(2, LONG), Long.MIN_VALUE);
            due("endless as a float", x.rests(1, 3), 2);
            due("endless", x.read(3, FLOAT), bits(Float.NEGATIVE_INFINITY));
        });
        sentence("15: .. in its KIND (a STRIP's, which is its LANE, whatever the REGISTER's), CAST (after it)", () -> {
            dueAdded("doubles into a float", DOUBLE, FLOAT, bits(16777218.0f), 16777216.0, 1.0, 1.0);
            dueAdded("doubles into an int", DOUBLE, INT, 1, 0.5, 0.5);
            dueAdded("doubles beyond the ints between", DOUBLE, INT, 2000000000, 3.0E9, -1.0E9);
            dueAdded("doubles into a long", DOUBLE, LONG, 1, 0.75, 0.75);
            dueAdded("doubles beyond the longs between", DOUBLE, LONG, 1000000000000000000L, 1.0E19, -9.0E18);
            dueAdded("doubles beyond the floats between", DOUBLE, FLOAT, bits(1.0E38f), 1.0E39, -9.0E38);
            dueAdded("floats into a double", FLOAT, DOUBLE, bits(16777216.0), 16777216.0, 1.0, 1.0);
            dueAdded("floats into an int", FLOAT, INT, 16777216, 16777216.0, 1.0, 1.0);
            dueAdded("floats into a long", FLOAT, LONG, 16777216, 16777216.0, 1.0, 1.0);
            dueAdded("floats into a float", FLOAT, FLOAT, bits(0.1f + 0.2f + 0.7f), 0.1, 0.2, 0.7);
            dueAdded("floats whose sum is endless stay so", FLOAT, DOUBLE, bits(ENDLESS), Float.MAX_VALUE, Float.MAX_VALUE, -Float.MAX_VALUE);
        });
        sentence("15: how many rests there were", () -> {
            dueRests("rests of 0 are rests", 3, 0.0, 0.0, 4.0, 2.0, 1.0);
            dueRests("none", 0, 0.0, 1.0, 0.0);
            dueRests("all 0", 0, 0.0, 0.0, 0.0, 0.0);
        });
        sentence("15: a PLACE whose next is 0, .. is gone by.", () -> {
            dueRests("next 0.0", 0, 0.0, 7.0, 0.0);
            dueRests("next -0.0", 0, 0.0, 7.0, -0.0);
            dueRests("the 0 itself has a rest", 1, 0.0, 7.0, 0.0, 2.0);
            dueRests("those about it are taken", 3, 1.0 + 1.0, 7.0, 2.0, 0.0, 5.0, 2.0);
            dueRests("a next that is nearly 0", 1, 0.0, 7.0, 0x1p-149);
        });
        sentence("15: a PLACE .. that is endless, is gone by.", () -> {
            dueRests("endless", 0, 0.0, ENDLESS, 3.0);
            dueRests("endless below", 0, 0.0, -ENDLESS, 3.0);
            dueRests("endless by endless", 1, 3.0, 3.0, ENDLESS, ENDLESS, 0.0);
            dueRests("a next that is endless is not gone by", 1, -7.0, -7.0, ENDLESS);
            dueRests("nor one that is endless below", 1, 7.0, 7.0, -ENDLESS);
            dueRests("those about it are taken", 3, 1.0 + 2.0 + 1.0, 5.0, 2.0, ENDLESS, 7.0, 3.0);
        });
        sentence("15: BAD; CAST: it is of ints, longs; NULL.", () -> {
            OrreryWorks x = withRegisters(INT);
            x.load(0, INT, 77);
            for (int lane = INT; lane <= DOUBLE; lane++) x.strip(lane, 0);
            due("ints", x.rests(INT, 0), CAST);
            due("longs", x.rests(LONG, 0), CAST);
            for (int lane = INT; lane <= DOUBLE; lane++) {
                x.tear(lane);
                due("GONE", x.rests(lane, 0), NULL);
                due("no register", x.rests(lane, 1), BAD);
            }
            due("no strip", x.rests(4, 0), BAD);
            due("nothing changed", x.read(0, INT), 77);
            due("counted", x.often(CAST) * 10 + x.often(NULL), 24);
        });
    }

    private static void fill(OrreryWorks x, int lane, int strip, double... values) {
        for (int i = 0; i < values.length; i++) {
            loadDouble(x, 0, values[i]);
            x.keep(strip, lane, i, 0);
        }
    }

    /** Each value stands before an endless one: so it is its own rest, and the endless one is gone by. */
    private static void dueAdded(String what, int lane, int kind, long want, double... values) {
        double[] places = new double[2 * values.length];
        for (int i = 0; i < values.length; i++) {
            places[2 * i] = values[i];
            places[2 * i + 1] = ENDLESS;
        }
        OrreryWorks x = withRegisters(DOUBLE, kind);
        x.strip(lane, places.length);
        fill(x, lane, 0, places);
        due(what, x.rests(0, 1), values.length);
        dueNumber(x, what + ", added", x.read(1, kind), want);
    }

    /** The same of floats and of doubles, whose values here are the same. */
    private static void dueRests(String what, int howMany, double sum, double... values) {
        for (int lane = FLOAT; lane <= DOUBLE; lane++) {
            OrreryWorks x = withRegisters(DOUBLE, DOUBLE);
            x.strip(lane, values.length);
            fill(x, lane, 0, values);
            loadDouble(x, 1, 77.0);
            dueNumber(x, what, x.rests(0, 1), howMany);
            due(what + ", added", x.read(1, DOUBLE), bits(sum));
            for (int i = 0; i < values.length; i++) {
                due(what + ", the strip stays", x.kept(0, lane, i), lane == FLOAT ? bits((float) values[i]) : bits(values[i]));
            }
        }
    }

    private static void pointersAndStands() {
        sentence("16: A POINTER of a sort 0 .. 3, of a WHEEL: its number. BAD; FULL.", () -> {
            OrreryWorks x = new OrreryWorks();
            due("no wheel yet", x.pointer(COARSE, 0), BAD);
            x.wheel(DOUBLE, bits(ENDLESS));
            x.wheel(DOUBLE, bits(ENDLESS));
            for (int i = 0; i < 12; i++) {
                due("sort -1", x.pointer(-1, 0), BAD);
                due("sort 4", x.pointer(4, 0), BAD);
                due("wheel 2", x.pointer(COARSE, 2), BAD);
                due("wheel -1", x.pointer(COARSE, -1), BAD);
                due("number", x.pointer(COARSE, i % 2), i);
            }
            due("FULL", x.pointer(LAMP, 1), FULL);
            x.turn(1, bits(5.0));
            x.stand(OF_HANDS, 2);
            x.set(0, 0, 10);
            x.set(0, 1, 11);
            due("each of its wheel", x.show(0, 0) * 10 + x.show(0, 1), 5);
        });
        sentence("17: A STAND of a sort 0 .. 3 with n PLACES: its number. BAD; FULL.", () -> {
            OrreryWorks x = new OrreryWorks();
            for (int i = 0; i < 8; i++) {
                due("sort -1", x.stand(-1, 1), BAD);
                due("sort 4", x.stand(4, 1), BAD);
                due("no places", x.stand(0, 0), BAD);
                due("7 places", x.stand(0, 7), BAD);
                due("number", x.stand(i % 4, 1 + i % 6), i);
            }
            due("FULL", x.stand(OF_SHOWING, 6), FULL);
            for (int stand = 0; stand < 8; stand++) {
                due("its last place", x.hang(stand, stand % 6, NONE), 1);
                due("no place beyond", x.hang(stand, stand % 6 + 1, NONE), INDEX);
            }
        });
    }

    private static void puts() {
        sentence("18: PLACE i of a STAND .. gets a POINTER, taken as a HAND, or nothing (NONE): 1.", () -> {
            OrreryWorks x = withPosition(1.5);
            for (int stand = OF_HANDS; stand <= OF_VERNIERS; stand++) {
                due("the last place", x.set(stand, 1, VERNIER), 1);
                dueNumber(x, "it shows", x.show(stand, 1), bits(1500.0f));
                dueNothing(x, "the first is bare", x.show(stand, 0), NULL);
                due("nothing", x.set(stand, 1, NONE), 1);
                dueNothing(x, "nothing is there", x.show(stand, 1), NULL);
                due("nothing once more", x.set(stand, 1, NONE), 1);
                due("-2 is not nothing", x.set(stand, 1, -2), BAD);
            }
            x.set(OF_HANDS, 0, VERNIER);
            due("another one", x.set(OF_HANDS, 0, COARSE), 1);
            due("in its place", x.show(OF_HANDS, 0), 1);
        });
        sentence("18: BAD; CAST: either is none;", () -> {
            OrreryWorks x = withPosition(1.5);
            for (int stand = OF_HANDS; stand <= OF_VERNIERS; stand++) due("a LAMP on " + stand, x.set(stand, 0, LAMP), CAST);
            for (int pointer = COARSE; pointer <= LAMP; pointer++) due(pointer + " on a stand of what is SHOWING", x.set(OF_SHOWING, 0, pointer), CAST);
            due("nothing on it", x.set(OF_SHOWING, 0, NONE), CAST);
            due("no pointer on it", x.set(OF_SHOWING, 0, 4), BAD);
            due("a LAMP on no stand", x.set(4, 0, LAMP), BAD);
            due("counted", x.often(CAST), 8);
        });
        sentence("18: INDEX;", () -> {
            OrreryWorks x = withPosition(1.5);
            for (int i : new int[] {-1, 2, 6, Integer.MIN_VALUE, Integer.MAX_VALUE}) {
                due("place " + i, x.set(OF_HANDS, i, COARSE), INDEX);
                due("nothing in place " + i, x.set(OF_VERNIERS, i, NONE), INDEX);
                due("too narrow, place " + i, x.set(OF_VERNIERS, i, COARSE), INDEX);
                due("a LAMP, place " + i, x.set(OF_VERNIERS, i, LAMP), CAST);
            }
        });
        sentence("18: STORE: the STAND is too narrow for it.", () -> {
            int[][] dues = {{1, 1, 1}, {STORE, 1, 1}, {STORE, STORE, 1}};
            for (int stand = OF_HANDS; stand <= OF_VERNIERS; stand++) for (int pointer = COARSE; pointer <= VERNIER; pointer++) {
                OrreryWorks x = withPosition(1.5);
                x.set(stand, 0, VERNIER);
                due(pointer + " on " + stand, x.set(stand, 0, pointer), dues[stand][pointer]);
                due("what is there", x.show(stand, 0), dues[stand][pointer] == 1 ? shown(x, pointer) : bits(1500.0f));
            }
        });
        sentence("19: PLACE i of a STAND .. gets any POINTER, or nothing (NONE): 1.", () -> {
            OrreryWorks x = withPosition(-1.5);
            long[] dues = {-1, -1500, bits(-1500.0f), 1};
            for (int pointer = COARSE; pointer <= LAMP; pointer++) {
                due("the last place", x.hang(OF_SHOWING, 1, pointer), 1);
                dueNumber(x, "it shows", x.show(OF_SHOWING, 1), dues[pointer]);
            }
            for (int stand = OF_HANDS; stand <= OF_SHOWING; stand++) {
                due("a VERNIER", x.hang(stand, 0, VERNIER), 1);
                due("nothing", x.hang(stand, 0, NONE), 1);
                dueNothing(x, "nothing is there", x.show(stand, 0), NULL);
            }
            due("no CAST", x.often(CAST), 0);
        });
        sentence("19: BAD; INDEX; STORE: the STAND is too narrow for it.", () -> {
            int[][] dues = {{1, 1, 1, STORE}, {STORE, 1, 1, STORE}, {STORE, STORE, 1, STORE}, {1, 1, 1, 1}};
            for (int stand = OF_HANDS; stand <= OF_SHOWING; stand++) for (int pointer = COARSE; pointer <= LAMP; pointer++) {
                OrreryWorks x = withPosition(1.5);
                due(pointer + " on " + stand, x.hang(stand, 0, pointer), dues[stand][pointer]);
                if (dues[stand][pointer] != 1) dueNothing(x, "still bare", x.show(stand, 0), NULL);
                for (int i : new int[] {-1, 2, Integer.MIN_VALUE, Integer.MAX_VALUE}) due("place " + i, x.hang(stand, i, pointer), INDEX);
                due("no pointer", x.hang(stand, 2, 4), BAD);
                due("no pointer -2", x.hang(stand, 0, -2), BAD);
                due("no stand", x.hang(4, 0, pointer), BAD);
            }
        });
    }

    private static void shows() {
        sentence("20: What the POINTER at PLACE i of a STAND shows. (Any number.)", () -> {
            for (int position = NULL; position <= 0; position++) {
                OrreryWorks x = withPosition(position);
                dueNumber(x, "COARSE " + position, shown(x, COARSE), position);
                OrreryWorks y = withPosition(position / 1000.0);
                dueNumber(y, "FINE " + position, shown(y, FINE), (long) (position / 1000.0 * 1000.0));
            }
            OrreryWorks x = withPosition(1.0);
            x.hang(OF_SHOWING, 0, COARSE);
            x.turn(0, bits(1.0));
            dueNumber(x, "it goes with its wheel", x.show(OF_SHOWING, 0), 2);
        });
        sentence("20: BAD; INDEX; NULL: nothing is there.", () -> {
            OrreryWorks x = withPosition(1.0);
            dueNothing(x, "no stand", x.show(4, 0), BAD);
            dueNothing(x, "no stand -1", x.show(-1, 0), BAD);
            for (int i : new int[] {-1, 2, 6, Integer.MIN_VALUE, Integer.MAX_VALUE}) dueNothing(x, "place " + i, x.show(OF_HANDS, i), INDEX);
            dueNothing(x, "bare", x.show(OF_HANDS, 1), NULL);
            x.set(OF_HANDS, 1, COARSE);
            dueNumber(x, "not bare", x.show(OF_HANDS, 1), 1);
            x.set(OF_HANDS, 1, NONE);
            dueNothing(x, "bare again", x.show(OF_HANDS, 1), NULL);
            due("counted", x.often(INDEX) * 10 + x.often(NULL), 52);
        });
        sentence("21: What all POINTERS on a STAND show, in longs that wrap;", () -> {
            OrreryWorks x = withPosition(1.0E300);
            due("one", allOf(x, FINE, 1), Long.MAX_VALUE);
            due("two wrap", allOf(x, FINE, 2), -2);
            due("six wrap", allOf(x, FINE, 6), -6);
            due("ints do not", allOf(x, COARSE, 6), 6L * Integer.MAX_VALUE);
            OrreryWorks y = withPosition(-1.0E300);
            due("one below", allOf(y, FINE, 1), Long.MIN_VALUE);
            due("two below wrap", allOf(y, FINE, 2), 0);
            due("three below wrap", allOf(y, FINE, 3), Long.MIN_VALUE);
            due("BITS of floats are added as such", allOf(y, VERNIER, 2), 2 * bits(-0x1p63f));
            due("no refusal", y.refused(), 0);
        });
        sentence("21: bare PLACES are gone by. (Any number.) BAD.", () -> {
            OrreryWorks x = withPosition(-2.0);
            dueNumber(x, "all bare", x.all(OF_SHOWING), 0);
            x.hang(OF_SHOWING, 1, COARSE);
            dueNumber(x, "the first bare", x.all(OF_SHOWING), -2);
            x.hang(OF_SHOWING, 1, NONE);
            x.hang(OF_SHOWING, 0, COARSE);
            dueNumber(x, "the last bare", x.all(OF_SHOWING), -2);
            x.hang(OF_SHOWING, 1, FINE);
            dueNumber(x, "none bare", x.all(OF_SHOWING), -2002);
            due("no NULL", x.often(NULL), 0);
            dueNothing(x, "no stand", x.all(4), BAD);
            dueNothing(x, "no stand -1", x.all(-1), BAD);
        });
    }

    /** The first n of six places bear the pointer. */
    private static long allOf(OrreryWorks x, int pointer, int n) {
        int stand = x.stand(OF_SHOWING, 6);
        for (int i = 0; i < n; i++) x.hang(stand, i, pointer);
        return x.all(stand);
    }

    private static void counts() {
        sentence("22: How many: 0 WHEELS, 1 REGISTERS, 2 STRIPS (also GONE), 3 POINTERS, 4 STANDS.", () -> {
            int[] most = {10, 16, 8, 12, 8};
            OrreryWorks x = withMost();
            for (int what = 0; what <= 4; what++) due("count(" + what + ") when full", x.count(what), most[what]);
            x.wheel(DOUBLE, bits(1.0));
            x.register(INT);
            x.strip(INT, 0);
            x.pointer(COARSE, 0);
            x.stand(OF_HANDS, 1);
            for (int strip = 0; strip < 8; strip++) x.tear(strip);
            for (int what = 0; what <= 4; what++) due("count(" + what + ") after FULL, and GONE", x.count(what), most[what]);
            OrreryWorks y = withStrips(0, INT);
            y.tear(0);
            due("only GONE ones", y.count(2), 1);
            due("a next one has the next number", y.strip(INT, 0), 1);
        });
        sentence("22: BAD.", () -> {
            OrreryWorks x = withSome();
            for (int what : new int[] {-1, 5, Integer.MIN_VALUE, Integer.MAX_VALUE}) due("what = " + what, x.count(what), BAD);
        });
    }
}
