/** The boundary cases of promises 2, 6 and 7 and of the pins, sentence by sentence. */
public final class TickEdgesTest {
    private static final int ALL_24 = 0xFFFFFF;
    /** Modes that lead from SHIFT-D to each state but those behind CAPTURE-I. */
    private static final String[] FROM_SHIFT_D = {
        "11111", "110", "111", "1110", "", "1", "10", "101", "11", "1111", "11110"};
    /** Modes that lead from SHIFT-I to SHIFT-I and the four states behind it. */
    private static final String[] FROM_SHIFT_I = {"", "1", "10", "101", "11"};

    public static void main(String[] args) {
        numberOfTicks();
        lowestModeFirst();
        lowestInFirst();
        bitsBehindN();
        firstOutputLowest();
        outputElsewhere();
        fiveTicksToReset();
        reset();
        resetDoesNothingElse();
        captureI();
        updateI();
        captureDByInstruction();
        captureBusy();
        captureAccess();
        valueAndNumberBefore();
        busyEnds();
        busyEndsOnlyWith2();
        noOperationBegunBefore();
        fewerThanFourTicks();
        fourTicksAreEnough();
        theLastBegunCounts();
        busyIsNoOperation();
        ifBusyNothing();
        readsTheRegister();
        writesTheRegister();
        valueStaying();
        noneIsBegun();
        lastBitsCount();
        nothingWithOthers();
        Bench.end();
    }

    /** A new object in SHIFT-D, its row being of 1 bit, 0. */
    private static ProbeBench inOneBitRow() {
        ProbeBench x = Bench.selecting(0);
        Bench.modes(x, "100");
        return x;
    }

    private static void numberOfTicks() {
        Bench.about("n ticks with a mode each");
        for (int n = 1; n <= 24; n++) {
            ProbeBench x = inOneBitRow();
            Bench.due("outputs of " + n + " ticks", x.tick(n, 0, -1), (1 << n) - 2);
            x = inOneBitRow();
            x.tick(n, 1 << n - 1, 0);
            Bench.due("the mode of tick " + n, x.state(), 5);
        }
    }

    private static void lowestModeFirst() {
        Bench.about("bits of modes, and bits of ins, the lowest first");
        for (int i = 0; i < 24; i++) {
            ProbeBench x = inOneBitRow();
            Bench.due("outputs up to mode 1 at bit " + i, x.tick(24, 1 << i, -1), (2 << i) - 2);
            Bench.due("state behind mode 1 at bit " + i, x.state(), i == 23 ? 5 : 6);
        }
    }

    private static void lowestInFirst() {
        Bench.about("bits of modes, and bits of ins, the lowest first");
        for (int i = 0; i < 24; i++) {
            ProbeBench x = inOneBitRow();
            Bench.due("outputs with IN at bit " + i, x.tick(24, 0, 1 << i), 2 << i & ALL_24);
            Bench.due("the next one", x.tick(1, 0, 0), i == 23 ? 1 : 0);
        }
    }

    private static void bitsBehindN() {
        Bench.about("n ticks with a mode each: bits of modes, and bits of ins");
        for (int n = 1; n <= 24; n++) {
            ProbeBench x = inOneBitRow();
            Bench.due("outputs", x.tick(n, -1 << n, -1 << n), 0);
            Bench.due("no mode of bit " + n, x.state(), 4);
            Bench.due("no IN of bit " + n, x.tick(1, 0, 0), 0);
        }
    }

    private static void firstOutputLowest() {
        Bench.about("The outputs, the first one as the lowest bit.");
        ProbeBench x = Bench.selecting(1);
        Bench.modes(x, "100");
        for (int i = 0; i < 16; i++) {
            Bench.due("output " + i, x.tick(1, 0, 0), 23130 >> i & 1);
        }
        x = Bench.selecting(1);
        Bench.modes(x, "100");
        Bench.due("16 at once", x.tick(16, 0, 0), 23130);
        x = Bench.selecting(1);
        Bench.due("behind three others", x.tick(24, 1, -1), (23130 | 0b11111 << 16) << 3);
    }

    private static void outputElsewhere() {
        Bench.about("(Else the output is 0.)");
        for (int mode = 0; mode < 2; mode++) {
            for (int s = 0; s < FROM_SHIFT_D.length; s++) {
                ProbeBench x = inOneBitRow();
                x.tick(1, 0, 1);
                // The last tick in SHIFT-D gives the row's 1 out and takes another 1 in.
                go(x, FROM_SHIFT_D[s]);
                Bench.due("state", x.state(), s);
                Bench.due("output in state " + s, x.tick(1, mode, 1), s == 4 ? 1 : 0);
            }
            for (int s = 0; s < FROM_SHIFT_I.length; s++) {
                ProbeBench x = new ProbeBench();
                Bench.modes(x, "01100");
                x.tick(4, 0, -1);
                go(x, FROM_SHIFT_I[s]);
                Bench.due("state", x.state(), 11 + s);
                Bench.due("output in state " + (11 + s), x.tick(1, mode, 1), s == 0 ? 1 : 0);
            }
        }
    }

    /** With IN 1 throughout. */
    private static void go(ProbeBench x, String modes) {
        for (int i = 0; i < modes.length(); i++) {
            x.tick(1, modes.charAt(i) - '0', 1);
        }
    }

    private static void fiveTicksToReset() {
        Bench.about("in brackets where a tick with mode 0, 1 leads");
        String[] far = {"10", "01100", "011010"};
        int[] at = {1, 11, 13};
        for (int i = 0; i < far.length; i++) {
            ProbeBench x = new ProbeBench();
            Bench.modes(x, far[i]);
            Bench.due("state", x.state(), at[i]);
            x.tick(5, 0b11111, 0);
            Bench.due("RESET by five modes 1 from " + at[i], x.state(), 0);
        }
        ProbeBench x = new ProbeBench();
        Bench.modes(x, "0100");
        x.tick(4, 0b1111, 0);
        Bench.due("four are too few", x.state(), 9);
        x.tick(1, 1, 0);
        Bench.due("the fifth", x.state(), 0);
        x.tick(24, -1, 0);
        Bench.due("RESET stays", x.state(), 0);
        x.tick(24, 0, 0);
        Bench.due("IDLE stays", x.state(), 1);
    }

    private static void reset() {
        Bench.about("RESET: INSTRUCTION becomes 1.");
        for (int i = 0; i < 16; i++) {
            for (int mode = 0; mode < 2; mode++) {
                ProbeBench x = Bench.selecting(i);
                Bench.modes(x, "111");
                Bench.due("state", x.state(), 0);
                Bench.due("not yet by the tick that led there", x.instruction(), i);
                x.tick(1, mode, 1);
                Bench.due("by its own tick, mode " + mode, x.instruction(), 1);
            }
            ProbeBench x = Bench.selecting(i);
            Bench.modes(x, "1100");
            Bench.modes(x, "1");
            Bench.due("no other state does, up to EXIT1-I", x.instruction(), i);
            x = Bench.selecting(i);
            Bench.modes(x, "1001010");
            Bench.modes(x, "110");
            Bench.due("no other state does, round the D branch", x.instruction(), i);
        }
    }

    private static void resetDoesNothingElse() {
        Bench.about("RESET: INSTRUCTION becomes 1.");
        for (int ticks : new int[] {3, 4, 24}) {
            ProbeBench x = Bench.busy(0xACE1);
            x.tick(ticks, -1, -1);
            Bench.modes(x, "0");
            Bench.scanInstruction(x, 3);
            Bench.due("BUSY, VALUE and number stay", Bench.scanData(x, 22, 0),
                Bench.access(3, 0xACE1, Bench.DATA));
            x = Bench.selecting(3);
            Bench.scanData(x, 22, Bench.access(1, 0, Bench.IDENTITY));
            x.tick(ticks, -1, -1);
            Bench.modes(x, "0");
            Bench.scanInstruction(x, 3);
            Bench.due("VALUE and number stay", Bench.scanData(x, 22, 0),
                Bench.access(0, 23130, Bench.IDENTITY));
        }
        for (Twins.Past past : new Twins.Past[] {Twins.Past.NEW, Twins.Past.RUNNING_AT_63,
                Twins.Past.HALTED_WITH_ERROR, Twins.Past.AT_A_TRAP, Twins.Past.JUST_RESUMED}) {
            Twins.same("to IDLE and back to RESET", past, Twins.Future.values(), x -> {
                x.tick(1, 0, 1);
                x.tick(24, -1, -1);
            }, y -> { });
        }
    }

    private static void captureI() {
        Bench.about("CAPTURE-I: the shift row becomes 4 bits, 0101 (5).");
        for (int i = 0; i < 16; i++) {
            ProbeBench x = Bench.selecting(i);
            Bench.modes(x, "1100");
            Bench.due("4 bits, and then what comes in", x.tick(24, 0, 1), 5 | 1 << 4);
            x = Bench.selecting(i);
            Bench.modes(x, "1100");
            Bench.due("nothing else", x.tick(24, 0, -1), ALL_24 & ~0b1010);
        }
    }

    private static void updateI() {
        Bench.about("UPDATE-I: INSTRUCTION becomes the row (4 bits).");
        for (int bits = 0; bits < 64; bits++) {
            for (int shifts = 1; shifts <= 6; shifts++) {
                ProbeBench x = Bench.selecting(9);
                Bench.modes(x, "1100");
                Bench.shift(x, shifts, bits);
                Bench.modes(x, "1");
                Bench.due("not before its own tick", x.instruction(), 9);
                x.tick(1, bits & 1, 1);
                int in = bits & (1 << shifts) - 1;
                Bench.due(shifts + " shifts of " + bits, x.instruction(),
                    (5 | in << 4) >> shifts & 15);
            }
        }
        ProbeBench x = Bench.selecting(9);
        Bench.modes(x, "11011");
        Bench.modes(x, "0");
        Bench.due("no shift", x.instruction(), 5);
    }

    private static void captureDByInstruction() {
        Bench.about("CAPTURE-D: by INSTRUCTION ... others: 1 bit, 0.");
        for (int i = 0; i < 16; i++) {
            int length = i == 1 ? 16 : i == 2 ? 4 : i == 3 ? 22 : 1;
            int row = i == 1 ? 23130 : 0;
            for (int ins : new int[] {0, 1, 2, -1}) {
                ProbeBench x = Bench.selecting(i);
                Bench.modes(x, "100");
                Bench.due("INSTRUCTION " + i + ", IN " + ins, x.tick(24, 0, ins),
                    (row | ins << length) & ALL_24);
            }
        }
    }

    private static void captureBusy() {
        Bench.about("2: 4 bits: BUSY's state (0 or 3) in bits 0, 1; the others 0.");
        ProbeBench x = Bench.busy(0xFFFF);
        Bench.scanInstruction(x, 2);
        Bench.modes(x, "100");
        Bench.due("BUSY", x.tick(24, 0, 1), 0b10011);
        x = Bench.selecting(3);
        Bench.scanData(x, 22, Bench.access(1, 0, Bench.IDENTITY));
        Bench.scanInstruction(x, 2);
        Bench.modes(x, "100");
        Bench.due("not BUSY", x.tick(24, 0, 1), 0b10000);
    }

    private static void captureAccess() {
        Bench.about("3: 22 bits: bits 0, 1 the RESULT (0, or 3 if BUSY), bits 2 .. 17 the VALUE");
        for (int value : new int[] {0, 1, 32767, 32768, 65534, 65535}) {
            ProbeBench x = Bench.selecting(3);
            x.write(Bench.DATA, value);
            Bench.scanData(x, 22, Bench.access(1, 0, Bench.DATA));
            Bench.modes(x, "100");
            Bench.due("22 bits and the first IN", x.tick(24, 0, 1),
                Bench.access(0, value, Bench.DATA) | 1 << 22);
            Bench.due("BUSY", Bench.scanData(Bench.busy(value), 22, 0),
                Bench.access(3, value, Bench.DATA));
        }
        Bench.about("18 .. 21 the register's number of the last operation that was begun");
        for (int number = 0; number < 16; number++) {
            for (int operation = 1; operation <= 2; operation++) {
                ProbeBench x = Bench.selecting(3);
                Bench.scanData(x, 22, Bench.access(operation, 0, number));
                Bench.due("by operation " + operation, Bench.scanData(x, 22, 0) >> 18, number);
            }
        }
    }

    private static void valueAndNumberBefore() {
        Bench.about("(VALUE and number are 0 before)");
        ProbeBench x = new ProbeBench();
        x.write(Bench.DATA, 65535);
        x.read(Bench.DATA);
        x.read(15);
        Bench.scanInstruction(x, 3);
        Bench.due("no operation yet", Bench.scanData(x, 22, 0), 0);
        Bench.scanData(x, 22, Bench.access(2, 65535, 15));
        Bench.due("a write: a number, but no VALUE", Bench.scanData(x, 22, 0),
            Bench.access(0, 0, 15));
    }

    private static void busyEnds() {
        Bench.about("INSTRUCTION 2: if bit 0 of the row is 1, BUSY ends.");
        for (int row = 0; row < 16; row++) {
            ProbeBench x = Bench.busy(1);
            Bench.scanInstruction(x, 2);
            Bench.scanData(x, 4, row);
            Bench.due("BUSY behind row " + row, Bench.scanData(x, 4, 0), (row & 1) == 1 ? 0 : 3);
            x = Bench.selecting(2);
            Bench.scanData(x, 4, row);
            Bench.due("it never begins by that", Bench.scanData(x, 4, 0), 0);
        }
        for (int shifts = 0; shifts <= 5; shifts++) {
            ProbeBench x = Bench.busy(1);
            Bench.scanInstruction(x, 2);
            Bench.modes(x, "10");
            x.tick(1 + shifts, 1 << shifts, 0);
            Bench.modes(x, "1");
            Bench.modes(x, "0");
            Bench.due("the captured 0011 behind " + shifts + " shifts",
                Bench.scanData(x, 4, 0), shifts < 2 ? 0 : 3);
        }
    }

    private static void busyEndsOnlyWith2() {
        Bench.about("INSTRUCTION 2: if bit 0 of the row is 1, BUSY ends.");
        for (int i = 0; i < 16; i++) {
            ProbeBench x = Bench.busy(1);
            Bench.scanInstruction(x, i);
            Bench.scanData(x, 22, -1);
            Bench.scanInstruction(x, 3);
            Bench.due("RESULT behind INSTRUCTION " + i, Bench.scanData(x, 22, 0) & 3,
                i == 2 ? 0 : 3);
        }
        ProbeBench x = Bench.busy(1);
        Bench.modes(x, "11111");
        Bench.modes(x, "0");
        Bench.scanInstruction(x, 3);
        Bench.due("RESULT behind RESET", Bench.scanData(x, 22, 0) & 3, 3);
    }

    /** From IDLE to UPDATE-D, whose own tick is still due. */
    private static void toUpdateD(ProbeBench x, int bits) {
        Bench.modes(x, "100");
        Bench.shift(x, 22, bits);
        Bench.modes(x, "1");
    }

    /** UPDATE-D twice, with 3 ticks between; ends in IDLE. */
    private static void updateTwice(ProbeBench x) {
        Bench.modes(x, "1011");
        Bench.modes(x, "0");
    }

    private static void noOperationBegunBefore() {
        Bench.about("else if an operation was begun before");
        for (int operation = 0; operation < 4; operation++) {
            ProbeBench x = Bench.selecting(3);
            toUpdateD(x, Bench.access(operation, 0, Bench.PROGRAM));
            updateTwice(x);
            boolean begun = operation == 1 || operation == 2;
            Bench.due("operation " + operation + " first", Bench.scanData(x, 22, 0),
                begun ? Bench.access(3, 0, Bench.PROGRAM) : 0);
        }
        ProbeBench x = new ProbeBench();
        Bench.modes(x, "01011");
        Bench.modes(x, "101110111011");
        updateTwice(x);
        Bench.scanInstruction(x, 3);
        Bench.due("UPDATE-D with INSTRUCTION 1 begins none", Bench.scanData(x, 22, 0), 0);
        x = Bench.selecting(3);
        x.write(Bench.DATA, 1);
        x.read(Bench.DATA);
        Bench.modes(x, "1011");
        updateTwice(x);
        Bench.due("nor do read and write from outside", Bench.scanData(x, 22, 0), 0);
    }

    private static void fewerThanFourTicks() {
        Bench.about("fewer than 4 ticks lie between that tick and this one, BUSY begins");
        // Behind UPDATE-D: IDLE or not, SELECT-D, CAPTURE-D, SHIFT-D or not, EXIT1-D.
        String[] between = {"101", "1001", "0101", "10001", "01001", "00101"};
        for (String way : between) {
            for (int operation = 1; operation <= 2; operation++) {
                ProbeBench x = Bench.selecting(3);
                toUpdateD(x, Bench.access(operation, 0, Bench.DATA));
                Bench.modes(x, way);
                Bench.modes(x, "1");
                Bench.due("in UPDATE-D again", x.state(), 8);
                x.tick(1, 0, 0);
                Bench.due("RESULT with " + way.length() + " ticks between, operation "
                    + operation, Bench.scanData(x, 22, 0) & 3, way.length() < 4 ? 3 : 0);
            }
        }
        ProbeBench x = Bench.selecting(3);
        toUpdateD(x, Bench.access(1, 0, Bench.DATA));
        Bench.modes(x, "1011");
        x.tick(0, 0, 0);
        x.run(50);
        x.read(Bench.DATA);
        x.state();
        x.tick(1, 0, 0);
        Bench.due("other calls are no ticks", Bench.scanData(x, 22, 0) & 3, 3);
    }

    /** By one tick in SHIFT-D the captured row becomes an operation that can be seen. */
    private static void fourTicksAreEnough() {
        Bench.about("else the row's bits 0, 1 are the operation");
        for (int address = 0; address < 64; address++) {
            ProbeBench x = Bench.selecting(3);
            x.write(Bench.DATA, 2 * address + 1);
            toUpdateD(x, Bench.access(1, 0, Bench.DATA));
            // UPDATE-D, SELECT-D, CAPTURE-D, SHIFT-D with IN 1, EXIT1-D, UPDATE-D: half of
            // VALUE is written into register 8 + DATA / 2, which is ADDRESS.
            x.tick(6, 0b011001, 0b001000);
            Bench.due("the write that the row is", x.read(Bench.ADDRESS), address);
            Bench.due("RESULT, VALUE and its number", Bench.scanData(x, 22, 0),
                Bench.access(0, 2 * address + 1, Bench.ADDRESS));
        }
    }

    private static void theLastBegunCounts() {
        Bench.about("an operation was begun before and fewer than 4 ticks lie between that tick");
        ProbeBench x = Bench.selecting(3);
        Bench.scanData(x, 22, Bench.access(1, 0, Bench.DATA));
        toUpdateD(x, Bench.access(2, 8, Bench.DATA));
        updateTwice(x);
        Bench.due("the second operation", Bench.scanData(x, 22, 0) & 3, 3);
        for (int operation = 0; operation < 4; operation += 3) {
            x = Bench.selecting(3);
            Bench.scanData(x, 22, Bench.access(1, 0, Bench.DATA));
            toUpdateD(x, Bench.access(operation, 0, Bench.DATA));
            updateTwice(x);
            Bench.due("operation " + operation + " behind it is none",
                Bench.scanData(x, 22, 0) & 3, 0);
        }
    }

    private static void busyIsNoOperation() {
        Bench.about("BUSY begins; else the row's bits 0, 1 are the operation");
        ProbeBench x = Bench.selecting(3);
        Bench.load(x, 0, 77, 78, 79);
        x.write(Bench.ADDRESS, 0);
        toUpdateD(x, Bench.access(1, 0, Bench.MEMORY));
        updateTwice(x);
        Bench.due("nothing was read by it", x.read(Bench.ADDRESS), 1);
        Bench.due("VALUE and number as they were", Bench.scanData(x, 22, 0),
            Bench.access(3, 77, Bench.MEMORY));
    }

    private static void ifBusyNothing() {
        Bench.about("3: if BUSY, nothing");
        for (int operation = 0; operation < 4; operation++) {
            ProbeBench x = Bench.busy(1);
            Bench.scanData(x, 22, Bench.access(operation, 500, Bench.PROGRAM));
            Bench.due("RESULT, VALUE and number behind operation " + operation,
                Bench.scanData(x, 22, 0), Bench.access(3, 1, Bench.DATA));
            Bench.due("the register", x.read(Bench.PROGRAM), 0);
        }
        ProbeBench x = Bench.busy(1);
        Bench.scanInstruction(x, 2);
        Bench.scanData(x, 4, 1);
        Bench.scanInstruction(x, 3);
        Bench.scanData(x, 22, Bench.access(2, 500, Bench.PROGRAM));
        Bench.due("when it has ended", x.read(Bench.PROGRAM), 500);
    }

    private static void readsTheRegister() {
        Bench.about("1 reads the register (bits 18 .. 21): VALUE becomes it");
        for (Twins.Past past : new Twins.Past[] {Twins.Past.NEW, Twins.Past.RUNNING_AT_63,
                Twins.Past.HALTED_WITH_ERROR, Twins.Past.AT_A_TRAP}) {
            for (int r = 0; r < 16; r++) {
                ProbeBench x = Twins.object(past);
                ProbeBench y = Twins.object(past);
                Bench.scanInstruction(x, 3);
                Bench.scanData(x, 22, Bench.access(1, 65535, r));
                Bench.due(past + ", register " + r, Bench.scanData(x, 22, 0),
                    Bench.access(0, y.read(r), r));
                Bench.due("ADDRESS", x.read(Bench.ADDRESS), y.read(Bench.ADDRESS));
                Bench.due("DATA", x.read(Bench.DATA), y.read(Bench.DATA));
            }
        }
    }

    private static void writesTheRegister() {
        Bench.about("2 writes bits 2 .. 17 into it");
        for (Twins.Past past : new Twins.Past[] {Twins.Past.NEW, Twins.Past.RUNNING_AT_63,
                Twins.Past.HALTED_WITH_ERROR, Twins.Past.AT_A_TRAP}) {
            for (int r = 0; r < 16; r++) {
                for (int v : new int[] {0, 1, 2, 6, 0x100, 0x400, 32768, 65535}) {
                    int register = r;
                    Twins.same("write of " + v + " into " + r, past, Twins.BEHIND_THE_PINS, x -> {
                        Bench.scanInstruction(x, 3);
                        Bench.scanData(x, 22, Bench.access(2, v, register));
                    }, y -> {
                        Bench.scanInstruction(y, 3);
                        Bench.scanData(y, 22, 0);
                        y.write(register, v);
                    });
                }
            }
        }
    }

    private static void valueStaying() {
        Bench.about("VALUE staying");
        for (int r = 0; r < 16; r++) {
            ProbeBench x = Bench.selecting(3);
            x.write(Bench.DATA, 0x7654);
            Bench.scanData(x, 22, Bench.access(1, 0, Bench.DATA));
            Bench.scanData(x, 22, Bench.access(2, 0x1111, r));
            Bench.due("VALUE behind a write into " + r, Bench.scanData(x, 22, 0),
                Bench.access(0, 0x7654, r));
        }
    }

    private static void noneIsBegun() {
        Bench.about("0 and 3: nothing, and none is begun");
        for (int operation = 0; operation < 4; operation += 3) {
            for (int r = 0; r < 16; r++) {
                ProbeBench x = Bench.selecting(3);
                x.write(Bench.DATA, 9);
                Bench.scanData(x, 22, Bench.access(1, 0, Bench.DATA));
                Bench.scanData(x, 22, Bench.access(operation, 1, r));
                Bench.due("VALUE and number behind operation " + operation,
                    Bench.scanData(x, 22, 0), Bench.access(0, 9, Bench.DATA));
                Bench.due("it runs", x.read(Bench.STATUS), 0);
                Bench.due("ADDRESS", x.read(Bench.ADDRESS), 0);
                Bench.due("register " + r, x.read(r),
                    r == Bench.DATA ? 9 : r == Bench.IDENTITY ? 23130 : 0);
            }
        }
    }

    private static void lastBitsCount() {
        Bench.about("the row goes down by one bit, IN coming in as its highest one");
        int bits = Bench.access(2, 0x9669, Bench.DATA);
        ProbeBench x = Bench.selecting(3);
        Bench.scanData(x, 23, bits << 1 | 1);
        Bench.due("23 shifts: the last 22 bits", x.read(Bench.DATA), 0x9669);
        x = Bench.selecting(3);
        // The number 8 leaves its highest bit, 1, as the lowest one of the row.
        Bench.scanData(x, 22, Bench.access(1, 0, 8));
        Bench.scanData(x, 21, Bench.access(1, 0, Bench.IDENTITY) >> 1);
        Bench.due("21 shifts: the captured highest bit is the lowest one",
            Bench.scanData(x, 22, 0), Bench.access(0, 23130, Bench.IDENTITY));
        x = Bench.selecting(3);
        Bench.scanData(x, 21, bits);
        Bench.due("21 shifts: bits 0, 1 are 0 and 0", x.read(Bench.DATA), 0);
    }

    private static void nothingWithOthers() {
        Bench.about("With all others nothing happens.");
        for (int i = 0; i < 16; i++) {
            if (i == 2 || i == 3) {
                continue;
            }
            for (int operation = 0; operation < 4; operation++) {
                ProbeBench x = Bench.selecting(3);
                x.write(Bench.DATA, 9);
                Bench.scanData(x, 22, Bench.access(1, 0, Bench.DATA));
                Bench.scanInstruction(x, i);
                Bench.scanData(x, 22, Bench.access(operation, 1, Bench.DATA));
                Bench.scanData(x, 16, Bench.access(operation, 1, Bench.CONTROL));
                toUpdateD(x, Bench.access(operation, 1, Bench.CONTROL));
                updateTwice(x);
                Bench.due("DATA behind INSTRUCTION " + i, x.read(Bench.DATA), 9);
                Bench.due("it runs", x.read(Bench.STATUS), 0);
                Bench.due("INSTRUCTION", x.instruction(), i);
                Bench.scanInstruction(x, 3);
                Bench.due("RESULT, VALUE and number", Bench.scanData(x, 22, 0),
                    Bench.access(0, 9, Bench.DATA));
            }
        }
    }
}
