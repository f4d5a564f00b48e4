/** The boundary cases of promises 4 and 5 and of the module, sentence by sentence. */
public final class ReadWriteEdgesTest {
    public static void main(String[] args) {
        lowerSixteenBits();
        readOnly();
        readingChangesNothing();
        control();
        controlOtherBits();
        steppingIsReadBack();
        nextStepPassesTheTrap();
        trapThatIsSetBehindResuming();
        nextStepAlone();
        stepThatIsDone();
        stepThatIsNotDone();
        status();
        data();
        commandWithError();
        commandWhileItRuns();
        commandsByNumber();
        anotherCommand();
        commandRegister();
        commandPc();
        commandReads0();
        errorIsCleared();
        programWords();
        programOperations();
        programEnd();
        programJump();
        programBreak();
        programLeavesTheCause();
        programWrapsAround();
        programTraps();
        addressMod64();
        memoryBehind63();
        memoryWhileItRuns();
        trapBits();
        Bench.end();
    }

    private static void lowerSixteenBits() {
        Bench.about("Writes the lower 16 bits of v into a register of the module");
        int[] values = {65535, 65536, 65537, 65538, 65542, 0x10000 + 0x400, -1, -65536, -65535,
            Integer.MIN_VALUE, Integer.MAX_VALUE};
        for (int r = 0; r < 16; r++) {
            int register = r;
            for (int v : values) {
                Twins.same("write(" + r + ", " + v + ")",
                    x -> x.write(register, v), y -> y.write(register, v & 65535));
            }
        }
        for (int r : new int[] {Bench.DATA, Bench.PROGRAM, Bench.PROGRAM + 3}) {
            ProbeBench x = new ProbeBench();
            x.write(r, 65535);
            Bench.due("65535 into " + r, x.read(r), 65535);
            x.write(r, 65536);
            Bench.due("65536 into " + r, x.read(r), 0);
            x.write(r, 65537);
            Bench.due("65537 into " + r, x.read(r), 1);
            x.write(r, -1);
            Bench.due("-1 into " + r, x.read(r), 65535);
            x.write(r, Integer.MIN_VALUE);
            Bench.due("the least int into " + r, x.read(r), 0);
        }
    }

    private static void readOnly() {
        Bench.about("(read only)");
        for (int r : new int[] {Bench.STATUS, Bench.IDENTITY, 14, 15}) {
            for (int v : new int[] {0, 1, 2, 23131, 65535}) {
                Twins.changeNothing("write(" + r + ", " + v + ")", x -> x.write(r, v));
                Bench.due("write(" + r + ", " + v + ")", new ProbeBench().write(r, v), true);
            }
        }
        for (Twins.Past past : Twins.Past.values()) {
            ProbeBench x = Twins.object(past);
            x.write(Bench.IDENTITY, 0);
            x.write(14, 65535);
            x.write(15, 65535);
            Bench.due("IDENTITY", x.read(Bench.IDENTITY), 23130);
            Bench.due("14", x.read(14), 0);
            Bench.due("15", x.read(15), 0);
        }
    }

    private static void readingChangesNothing() {
        Bench.about("Reads a register of the module from outside");
        for (int r = 0; r < 16; r++) {
            int register = r;
            if (r == Bench.MEMORY) {
                Twins.same("read(10) and ADDRESS back",
                    x -> {
                        int at = x.read(Bench.ADDRESS);
                        x.read(Bench.MEMORY);
                        x.write(Bench.ADDRESS, at);
                    }, y -> { });
            } else {
                Twins.changeNothing("read(" + r + ")", x -> x.read(register));
            }
        }
    }

    private static void control() {
        Bench.about("if bit 0 is 1 and the processor runs: it halts with cause 3; else if bit 1");
        for (int v = 0; v < 8; v++) {
            boolean halts = (v & 1) == 1;
            boolean resumes = (v & 2) == 2;
            boolean steps = (v & 4) == 4;
            ProbeBench x = new ProbeBench();
            x.run(2);
            x.write(Bench.CONTROL, v);
            Bench.due("running, CONTROL " + v, x.read(Bench.STATUS),
                Bench.status(halts, halts ? 3 : 0, 2));
            Bench.due("STEPPING", x.read(Bench.CONTROL), v & 4);
            Bench.due("steps()", x.steps(), 2);
            x = Bench.with(0, Bench.BREAK);
            x.run(2);
            Bench.load(x, 1, 0);
            x.write(Bench.CONTROL, v);
            int due = !resumes ? Bench.status(true, 1, 1)
                : steps ? Bench.status(true, 4, 2) : Bench.status(false, 1, 1);
            Bench.due("halted, CONTROL " + v, x.read(Bench.STATUS), due);
            Bench.due("STEPPING", x.read(Bench.CONTROL), v & 4);
            Bench.due("steps()", x.steps(), resumes && steps ? 2 : 1);
        }
    }

    private static void controlOtherBits() {
        Bench.about("STEPPING becomes bit 2; then, if bit 0 is 1 ... else if bit 1 is 1");
        for (int v = 0; v < 8; v++) {
            int low = v;
            for (int bit = 3; bit < 16; bit++) {
                int other = 1 << bit;
                Twins.same("CONTROL " + (low | other),
                    x -> x.write(Bench.CONTROL, low | other), y -> y.write(Bench.CONTROL, low));
            }
        }
    }

    private static void steppingIsReadBack() {
        Bench.about("Read: 4 * STEPPING.");
        ProbeBench x = new ProbeBench();
        int[] values = {3, 4, 5, 8, 12, 0, 65535, 65531, 4};
        for (int v : values) {
            x.write(Bench.CONTROL, v);
            Bench.due("behind " + v, x.read(Bench.CONTROL), v & 4);
        }
        x = Bench.halted();
        x.write(Bench.CONTROL, 4);
        x.write(Bench.CONTROL, Bench.RESUME);
        Bench.due("resuming without bit 2: no step", x.steps(), 0);
        Bench.due("it runs freely", x.run(5), 5);
    }

    private static void nextStepPassesTheTrap() {
        Bench.about("for its next step a trap of kind 1 does not count");
        for (int at : new int[] {0, 1, 63}) {
            for (int traps = 1; traps <= 3; traps++) {
                ProbeBench x = Bench.halted();
                Bench.setPc(x, at);
                x.write(Bench.TRAP_0, (traps & 1) == 1 ? Bench.trap(1, at) : 0);
                x.write(Bench.TRAP_1, (traps & 2) == 2 ? Bench.trap(1, at) : 0);
                x.write(Bench.CONTROL, Bench.RESUME);
                Bench.due("the step at " + at, x.run(1), 1);
                x.run(50);
                Bench.due("round to it", x.run(50), 13);
                Bench.due("STATUS", x.read(Bench.STATUS), Bench.status(true, 2, at));
            }
        }
        ProbeBench x = Bench.halted();
        x.write(Bench.CONTROL, Bench.RESUME);
        x.write(Bench.CONTROL, Bench.HALT);
        x.write(Bench.TRAP_0, Bench.trap(1, 0));
        x.write(Bench.CONTROL, Bench.RESUME);
        Bench.due("resumed, halted and resumed", x.run(1), 1);
    }

    private static void trapThatIsSetBehindResuming() {
        Bench.about("for its next step a trap of kind 1 does not count");
        for (int t = Bench.TRAP_0; t <= Bench.TRAP_1; t++) {
            for (int at : new int[] {0, 1, 63}) {
                ProbeBench x = Bench.halted();
                Bench.setPc(x, at);
                x.write(Bench.CONTROL, Bench.RESUME);
                x.write(t, Bench.trap(1, at));
                Bench.due("from outside, the step at " + at, x.run(1), 1);
                x = Bench.halted();
                Bench.setPc(x, at);
                Bench.scanInstruction(x, 3);
                Bench.scanData(x, 22, Bench.access(2, Bench.RESUME, Bench.CONTROL));
                Bench.scanData(x, 22, Bench.access(2, Bench.trap(1, at), t));
                Bench.due("through the pins, the step at " + at, x.run(1), 1);
                x.run(50);
                Bench.due("it counts when it comes round", x.run(50), 13);
                Bench.due("STATUS", x.read(Bench.STATUS), Bench.status(true, 2, at));
            }
        }
    }

    private static void nextStepAlone() {
        Bench.about("for its next step a trap of kind 1 does not count");
        ProbeBench x = Bench.halted();
        x.write(Bench.TRAP_0, Bench.trap(1, 1));
        x.write(Bench.CONTROL, Bench.RESUME);
        Bench.due("the second one counts", x.run(50), 1);
        Bench.due("STATUS", x.read(Bench.STATUS), Bench.status(true, 2, 1));
        x = Bench.halted();
        Bench.load(x, 0, Bench.op(6, 0, 0, 0));
        x.write(Bench.TRAP_0, Bench.trap(1, 0));
        x.write(Bench.CONTROL, Bench.RESUME);
        Bench.due("at the same place too", x.run(50), 1);
        x = Bench.halted();
        Bench.load(x, 0, Bench.op(5, 0, 0, 0));
        x.write(Bench.TRAP_0, Bench.trap(2, 0));
        x.write(Bench.CONTROL, Bench.RESUME);
        Bench.due("kind 2 counts at once", x.run(50), 0);
        x = new ProbeBench();
        x.write(Bench.TRAP_0, Bench.trap(1, 0));
        x.write(Bench.CONTROL, Bench.RESUME);
        Bench.due("not when it ran already", x.run(50), 0);
        x = Bench.halted();
        x.write(Bench.CONTROL, Bench.STEP_ONCE);
        x.write(Bench.TRAP_0, Bench.trap(1, 2));
        x.write(Bench.CONTROL, Bench.RESUME);
        Bench.due("a step that was asked for leaves nothing over", x.run(50), 1);
    }

    private static void stepThatIsDone() {
        Bench.about("if STEPPING is 1, that step comes at once, and if it was done");
        for (int pc : new int[] {0, 1, 62, 63}) {
            ProbeBench x = Bench.halted();
            Bench.load(x, pc, Bench.op(1, 5, 0, 55));
            Bench.setPc(x, pc);
            x.write(Bench.TRAP_1, Bench.trap(1, pc));
            x.write(Bench.CONTROL, Bench.STEP_ONCE);
            Bench.due("STATUS", x.read(Bench.STATUS), Bench.status(true, 4, pc + 1 & 63));
            Bench.due("register(5)", x.register(5), 55);
            Bench.due("steps()", x.steps(), 1);
            Bench.due("run(50)", x.run(50), 0);
        }
        ProbeBench x = Bench.halted();
        x.write(Bench.TRAP_0, Bench.trap(1, 1));
        x.write(Bench.CONTROL, Bench.STEP_ONCE);
        Bench.due("a trap behind the step", x.read(Bench.STATUS), Bench.status(true, 4, 1));
        x.write(Bench.CONTROL, Bench.STEP_ONCE);
        Bench.due("and past it", x.read(Bench.STATUS), Bench.status(true, 4, 2));
    }

    private static void stepThatIsNotDone() {
        Bench.about("and if it was done, the processor halts with cause 4");
        for (int pc : new int[] {0, 63}) {
            ProbeBench x = Bench.halted();
            Bench.load(x, pc, Bench.BREAK);
            Bench.setPc(x, pc);
            x.write(Bench.CONTROL, Bench.STEP_ONCE);
            Bench.due("a BREAK", x.read(Bench.STATUS), Bench.status(true, 1, pc));
            x.write(Bench.TRAP_0, Bench.trap(1, pc));
            x.write(Bench.CONTROL, Bench.STEP_ONCE);
            Bench.due("a BREAK past a trap", x.read(Bench.STATUS), Bench.status(true, 1, pc));
            Bench.load(x, pc, Bench.op(5, 0, 0, 33));
            x.write(Bench.TRAP_0, Bench.trap(2, 33));
            x.write(Bench.CONTROL, Bench.STEP_ONCE);
            Bench.due("a store", x.read(Bench.STATUS), Bench.status(true, 2, pc));
            x.write(Bench.TRAP_0, Bench.trap(2, 32));
            x.write(Bench.CONTROL, Bench.STEP_ONCE);
            Bench.due("beside it", x.read(Bench.STATUS), Bench.status(true, 4, pc + 1 & 63));
            Bench.due("steps()", x.steps(), 1);
        }
    }

    private static void status() {
        Bench.about("bit 0 halted, bits 1 .. 3 the cause, bits 4 .. 9 the PC");
        for (int pc = 0; pc < 64; pc++) {
            ProbeBench x = Bench.halted();
            Bench.setPc(x, pc);
            Bench.due("halted", x.read(Bench.STATUS), Bench.status(true, 3, pc));
            x.write(Bench.CONTROL, Bench.RESUME);
            Bench.due("running", x.read(Bench.STATUS), Bench.status(false, 3, pc));
            Bench.due("pc()", x.pc(), pc);
        }
    }

    private static void data() {
        Bench.about("2 DATA (any).");
        ProbeBench x = new ProbeBench();
        for (int v : new int[] {0, 1, 255, 256, 32767, 32768, 65534, 65535}) {
            x.write(Bench.DATA, v);
            Bench.due("running", x.read(Bench.DATA), v);
        }
        x.write(Bench.CONTROL, Bench.HALT);
        Bench.due("it stays", x.read(Bench.DATA), 65535);
        x.write(Bench.DATA, 0);
        Bench.due("halted", x.read(Bench.DATA), 0);
    }

    /** Halted at PC 3, DATA 21, ADDRESS 41, register r 60 + r, with a PROGRAM and this ERROR. */
    private static ProbeBench withError(int error) {
        ProbeBench x = Bench.halted();
        for (int r = 0; r < 8; r++) {
            Bench.setRegister(x, r, 60 + r);
        }
        Bench.setPc(x, 3);
        if (error == 1) {
            x.write(Bench.CONTROL, Bench.RESUME);
            x.write(Bench.COMMAND, 0);
            x.write(Bench.CONTROL, Bench.HALT);
        } else if (error == 2) {
            x.write(Bench.COMMAND, 0x500);
        } else if (error == 3) {
            x.write(Bench.PROGRAM, Bench.op(6, 0, 0, 0));
            x.write(Bench.COMMAND, 0x400);
        }
        x.write(Bench.PROGRAM, Bench.op(1, 1, 0, 1));
        x.write(Bench.DATA, 21);
        x.write(Bench.ADDRESS, 41);
        return x;
    }

    private static void asItWas(String what, ProbeBench x, int error) {
        Bench.due(what + ", ERROR", x.read(Bench.ERROR), error);
        Bench.due(what + ", DATA", x.read(Bench.DATA), 21);
        Bench.due(what + ", ADDRESS", x.read(Bench.ADDRESS), 41);
        Bench.due(what + ", STEPPING", x.read(Bench.CONTROL), 0);
        Bench.due(what + ", PC", x.pc(), 3);
        for (int r = 0; r < 8; r++) {
            Bench.due(what + ", register(" + r + ")", x.register(r), 60 + r);
        }
    }

    private static void commandWithError() {
        Bench.about("COMMAND: written: if ERROR is not 0, nothing");
        for (int error = 1; error <= 3; error++) {
            for (int command = 0; command < 8; command++) {
                ProbeBench x = withError(error);
                x.write(Bench.COMMAND, command << 8 | 1);
                asItWas("ERROR " + error + ", command " + command, x, error);
                x.write(Bench.CONTROL, Bench.RESUME);
                x.write(Bench.COMMAND, command << 8 | 1);
                asItWas("ERROR " + error + ", running, command " + command, x, error);
            }
        }
    }

    private static void commandWhileItRuns() {
        Bench.about("else if the processor runs, ERROR becomes 1");
        for (int command = 0; command < 8; command++) {
            ProbeBench x = withError(0);
            x.write(Bench.CONTROL, Bench.RESUME);
            x.write(Bench.COMMAND, command << 8 | 1);
            asItWas("running, command " + command, x, 1);
            Bench.due("it runs on", x.run(1), 1);
        }
    }

    private static void commandsByNumber() {
        Bench.about("else by bits 8 .. 10: 0 DATA becomes register ... 4 runs the PROGRAM");
        for (int command = 0; command < 5; command++) {
            for (int others : new int[] {0, 0xF8, 0xF800, 0xF8F8}) {
                ProbeBench x = withError(0);
                x.write(Bench.COMMAND, command << 8 | others | 5);
                Bench.due("DATA by " + command, x.read(Bench.DATA),
                    command == 0 ? 65 : command == 2 ? 3 : 21);
                Bench.due("register(5) by " + command, x.register(5), command == 1 ? 21 : 65);
                Bench.due("PC by " + command, x.pc(), command == 3 ? 21 : 3);
                Bench.due("register(1) by " + command, x.register(1), command == 4 ? 1 : 61);
                Bench.due("ERROR by " + command, x.read(Bench.ERROR), 0);
                Bench.due("steps()", x.steps(), 0);
            }
        }
    }

    private static void anotherCommand() {
        Bench.about("another one: ERROR becomes 2");
        for (int command = 5; command < 8; command++) {
            for (int others : new int[] {0, 1, 0xF8FF}) {
                ProbeBench x = withError(0);
                x.write(Bench.COMMAND, command << 8 | others);
                asItWas("command " + command, x, 2);
            }
        }
    }

    private static void commandRegister() {
        Bench.about("0 DATA becomes register (bits 0 .. 2); 1 that becomes DATA");
        for (int r = 0; r < 8; r++) {
            for (int v : new int[] {0, 1, 32768, 65535}) {
                ProbeBench x = withError(0);
                x.write(Bench.DATA, v);
                x.write(Bench.COMMAND, 0x100 | r);
                for (int other = 0; other < 8; other++) {
                    Bench.due("register(" + other + ")", x.register(other),
                        other == r ? v : 60 + other);
                }
                Bench.due("DATA stays", x.read(Bench.DATA), v);
                x.write(Bench.DATA, 5);
                x.write(Bench.COMMAND, r);
                Bench.due("DATA", x.read(Bench.DATA), v);
                Bench.due("the register stays", x.register(r), v);
            }
        }
    }

    private static void commandPc() {
        Bench.about("2 DATA becomes the PC; 3 the PC becomes DATA mod 64");
        int[][] cases = {{0, 0}, {1, 1}, {62, 62}, {63, 63}, {64, 0}, {65, 1}, {127, 63},
            {128, 0}, {32768, 0}, {65472, 0}, {65534, 62}, {65535, 63}};
        for (int[] c : cases) {
            ProbeBench x = withError(0);
            Bench.setPc(x, c[0]);
            Bench.due("PC by " + c[0], x.pc(), c[1]);
            Bench.due("DATA stays", x.read(Bench.DATA), c[0]);
            Bench.due("STATUS", x.read(Bench.STATUS), Bench.status(true, 3, c[1]));
            x.write(Bench.COMMAND, 0x200);
            Bench.due("DATA by the PC", x.read(Bench.DATA), c[1]);
        }
    }

    private static void commandReads0() {
        Bench.about("Read: 0.");
        for (int v : new int[] {0, 0x101, 0x400, 0x700, 65535}) {
            ProbeBench x = withError(0);
            x.write(Bench.COMMAND, v);
            Bench.due("behind " + v, x.read(Bench.COMMAND), 0);
        }
    }

    private static void errorIsCleared() {
        Bench.about("4 ERROR: read: it; written: if bit 0 is 1, it becomes 0");
        for (int error = 0; error <= 3; error++) {
            for (int v : new int[] {0, 1, 2, 3, 4, 255, 256, 32768, 65534, 65535}) {
                ProbeBench x = withError(error);
                asItWas("ERROR " + error, x, error);
                x.write(Bench.ERROR, v);
                asItWas("ERROR " + error + " behind " + v, x, (v & 1) == 1 ? 0 : error);
            }
        }
        ProbeBench x = withError(1);
        x.write(Bench.ERROR, 1);
        x.write(Bench.COMMAND, 0x102);
        Bench.due("then a command is done again", x.register(2), 21);
    }

    private static void programWords() {
        Bench.about("5 .. 8 the words 0 .. 3 of the PROGRAM");
        for (int i = 0; i < 4; i++) {
            for (int v : new int[] {1, 32768, 65535}) {
                ProbeBench x = Bench.halted();
                x.write(Bench.PROGRAM + i, v);
                for (int r = 0; r < 16; r++) {
                    int due = r == Bench.STATUS ? Bench.status(true, 3, 0)
                        : r == Bench.IDENTITY ? 23130 : 0;
                    Bench.due("read(" + r + ")", x.read(r), r == Bench.PROGRAM + i ? v : due);
                }
            }
            ProbeBench x = Bench.halted();
            x.write(Bench.PROGRAM + i, Bench.op(1, i, 0, 40));
            x.write(Bench.COMMAND, 0x400);
            Bench.due("word " + i + " alone", x.register(i), 40);
        }
    }

    /** Halted at PC 63, with this PROGRAM. */
    private static ProbeBench withProgram(int... program) {
        ProbeBench x = Bench.halted();
        Bench.setPc(x, 63);
        for (int i = 0; i < program.length; i++) {
            x.write(Bench.PROGRAM + i, program[i]);
        }
        return x;
    }

    private static void programOperations() {
        Bench.about("(operations 6 .. 9 make ERROR 3, and nothing further is done)");
        for (int operation = 0; operation < 16; operation++) {
            boolean jump = operation >= 6 && operation <= 9;
            boolean stops = jump || operation == 10;
            ProbeBench x = withProgram(Bench.op(operation, 7, 7, 50), Bench.op(1, 1, 0, 1));
            x.write(Bench.COMMAND, 0x400);
            Bench.due("ERROR by " + operation, x.read(Bench.ERROR), jump ? 3 : 0);
            Bench.due("further by " + operation, x.register(1), stops ? 0 : 1);
            Bench.due("register(7) by " + operation, x.register(7), operation == 1 ? 50 : 0);
            Bench.due("STATUS", x.read(Bench.STATUS), Bench.status(true, 3, 63));
            Bench.due("steps()", x.steps(), 0);
        }
    }

    private static void programEnd() {
        Bench.about("its words 0 .. 3 are done as instructions, one after the other");
        ProbeBench x = withProgram(Bench.op(1, 1, 0, 1), Bench.op(2, 1, 1, 0),
            Bench.op(2, 1, 1, 0), Bench.op(2, 1, 1, 0));
        x.write(Bench.COMMAND, 0x400);
        Bench.due("each once, up to the end", x.register(1), 8);
        Bench.due("ADDRESS is no word of it", x.read(Bench.ADDRESS), 0);
        Bench.due("STATUS", x.read(Bench.STATUS), Bench.status(true, 3, 63));
        Bench.due("steps()", x.steps(), 0);
        x.write(Bench.COMMAND, 0x400);
        Bench.due("it can be run again", x.register(1), 8);
        x = withProgram();
        x.write(Bench.COMMAND, 0x400);
        Bench.due("an empty one", x.read(Bench.ERROR), 0);
        x.write(Bench.COMMAND, 0x200);
        Bench.due("and then a command", x.read(Bench.DATA), 63);
    }

    private static void programJump() {
        Bench.about("(operations 6 .. 9 make ERROR 3, and nothing further is done)");
        for (int operation = 6; operation <= 9; operation++) {
            for (int at = 0; at < 4; at++) {
                ProbeBench x = withProgram(setEach());
                x.write(Bench.PROGRAM + at, Bench.op(operation, 6, 6, 20));
                x.write(Bench.COMMAND, 0x400);
                Bench.due("ERROR", x.read(Bench.ERROR), 3);
                doneUpTo(x, at);
                Bench.due("register(6)", x.register(6), 0);
                x.write(Bench.COMMAND, 0x200);
                Bench.due("no command behind it", x.read(Bench.DATA), 63);
            }
        }
    }

    private static void programBreak() {
        Bench.about("up to a BREAK or the end");
        for (int at = 0; at < 4; at++) {
            ProbeBench x = withProgram(setEach());
            x.write(Bench.PROGRAM + at, Bench.BREAK | 0xFFF);
            x.write(Bench.COMMAND, 0x400);
            Bench.due("ERROR", x.read(Bench.ERROR), 0);
            doneUpTo(x, at);
            if (at < 3) {
                x.write(Bench.PROGRAM + at + 1, Bench.op(6, 0, 0, 0));
                x.write(Bench.COMMAND, 0x400);
                Bench.due("a jump behind the BREAK", x.read(Bench.ERROR), 0);
            }
        }
        ProbeBench x = withProgram(setEach());
        x.write(Bench.COMMAND, 0x400);
        doneUpTo(x, 4);
    }

    /** Halted with this cause; the PC is 1. */
    private static ProbeBench haltedBy(int cause) {
        ProbeBench x = Bench.with(0, cause == 1 ? Bench.BREAK : 0);
        x.write(Bench.TRAP_0, cause == 2 ? Bench.trap(1, 1) : 0);
        if (cause == 4) {
            x.write(Bench.CONTROL, Bench.HALT);
            x.write(Bench.CONTROL, Bench.STEP_ONCE);
        } else if (cause == 3) {
            x.run(1);
            x.write(Bench.CONTROL, Bench.HALT);
        } else {
            x.run(2);
        }
        Bench.due("STATUS", x.read(Bench.STATUS), Bench.status(true, cause, 1));
        return x;
    }

    private static void programLeavesTheCause() {
        Bench.about("without the PC (...), up to a BREAK or the end; traps don't count");
        int[] ends = {Bench.BREAK, Bench.op(6, 0, 0, 9), 0, Bench.op(5, 0, 0, 1)};
        for (int cause = 1; cause <= 4; cause++) {
            for (int end : ends) {
                for (int at = 0; at < 4; at++) {
                    ProbeBench x = haltedBy(cause);
                    x.write(Bench.TRAP_1, Bench.trap(2, 1));
                    x.write(Bench.PROGRAM + at, end);
                    x.write(Bench.COMMAND, 0x400);
                    Bench.due("behind " + end, x.read(Bench.STATUS),
                        Bench.status(true, cause, 1));
                }
            }
        }
    }

    private static int[] setEach() {
        int[] program = new int[4];
        for (int i = 0; i < 4; i++) {
            program[i] = Bench.op(1, i, 0, 30 + i);
        }
        return program;
    }

    private static void doneUpTo(ProbeBench x, int at) {
        for (int i = 0; i < 4; i++) {
            Bench.due("word " + i + ", the end being at " + at, x.register(i),
                i < at ? 30 + i : 0);
        }
        Bench.due("STATUS", x.read(Bench.STATUS), Bench.status(true, 3, 63));
        Bench.due("steps()", x.steps(), 0);
    }

    private static void programWrapsAround() {
        Bench.about("its words 0 .. 3 are done as instructions");
        ProbeBench x = withProgram(Bench.op(2, 1, 2, 0), Bench.op(3, 3, 2, 0),
            Bench.op(5, 3, 2, 63), Bench.op(4, 4, 2, 62));
        Bench.setRegister(x, 1, 65535);
        Bench.setRegister(x, 2, 2);
        Bench.setPc(x, 63);
        x.write(Bench.COMMAND, 0x400);
        Bench.due("65535 + 2", x.register(1), 1);
        Bench.due("0 - 2", x.register(3), 65534);
        Bench.due("a store at (2 + 63) mod 64", x.word(1), 65534);
        Bench.due("a load from (2 + 62) mod 64", x.register(4), 0);
        x.write(Bench.PROGRAM + 3, Bench.op(4, 4, 2, 63));
        x.write(Bench.COMMAND, 0x400);
        Bench.due("a load from (2 + 63) mod 64", x.register(4), 65532);
        Bench.due("PC", x.pc(), 63);
    }

    private static void programTraps() {
        Bench.about("traps don't count");
        for (int kind = 1; kind <= 2; kind++) {
            ProbeBench x = withProgram(Bench.op(1, 1, 0, 9), Bench.op(5, 1, 0, 63));
            x.write(Bench.TRAP_0, Bench.trap(kind, 63));
            x.write(Bench.TRAP_1, Bench.trap(kind, 63));
            x.write(Bench.COMMAND, 0x400);
            Bench.due("the store", x.word(63), 9);
            Bench.due("STATUS", x.read(Bench.STATUS), Bench.status(true, 3, 63));
            Bench.due("ERROR", x.read(Bench.ERROR), 0);
        }
    }

    private static void addressMod64() {
        Bench.about("9 ADDRESS (mod 64): of the memory.");
        int[][] cases = {{0, 0}, {1, 1}, {62, 62}, {63, 63}, {64, 0}, {65, 1}, {127, 63},
            {128, 0}, {32768, 0}, {65472, 0}, {65535, 63}};
        for (int[] c : cases) {
            ProbeBench x = new ProbeBench();
            x.write(Bench.ADDRESS, c[0]);
            Bench.due("ADDRESS by " + c[0], x.read(Bench.ADDRESS), c[1]);
            x.write(Bench.MEMORY, 1234);
            Bench.due("the word there", x.word(c[1]), 1234);
        }
    }

    private static void memoryBehind63() {
        Bench.about("10 MEMORY: read or written: the word at ADDRESS, which then grows by 1");
        for (int halted = 0; halted < 2; halted++) {
            ProbeBench x = halted == 1 ? Bench.halted() : new ProbeBench();
            x.write(Bench.ADDRESS, 1);
            for (int i = 1; i <= 64; i++) {
                x.write(Bench.MEMORY, 65536 - i);
                Bench.due("ADDRESS behind a write", x.read(Bench.ADDRESS), i + 1 & 63);
                Bench.due("the word", x.word(i & 63), 65536 - i);
            }
            for (int i = 1; i <= 65; i++) {
                Bench.due("MEMORY", x.read(Bench.MEMORY), i == 65 ? 65535 : 65536 - i);
                Bench.due("ADDRESS behind a read", x.read(Bench.ADDRESS), i + 1 & 63);
            }
        }
    }

    private static void memoryWhileItRuns() {
        Bench.about("also while it runs");
        ProbeBench x = new ProbeBench();
        x.write(Bench.TRAP_0, Bench.trap(2, 63));
        x.write(Bench.TRAP_1, Bench.trap(1, 63));
        x.run(1);
        x.write(Bench.ADDRESS, 63);
        x.write(Bench.MEMORY, 1);
        Bench.due("no trap by it", x.read(Bench.STATUS), Bench.status(false, 0, 1));
        Bench.due("no ERROR", x.read(Bench.ERROR), 0);
        Bench.load(x, 1, Bench.op(1, 1, 0, 33));
        x.run(1);
        Bench.due("what was written is done", x.register(1), 33);
        x.write(Bench.ADDRESS, 63);
        Bench.due("read", x.read(Bench.MEMORY), 1);
        Bench.due("steps()", x.steps(), 2);
    }

    private static void trapBits() {
        Bench.about("address + 64 * kind (kind 3 counts as 0; other bits are 0)");
        for (int v = 0; v < 256; v++) {
            for (int above : new int[] {0, 0x100, 0x8000, 0xFF00}) {
                ProbeBench x = new ProbeBench();
                x.write(Bench.TRAP_0, v | above);
                x.write(Bench.TRAP_1, v ^ 255 | above);
                Bench.due("TRAP 0 by " + (v | above), x.read(Bench.TRAP_0), trap(v));
                Bench.due("TRAP 1 by " + (v ^ 255 | above), x.read(Bench.TRAP_1), trap(v ^ 255));
            }
        }
    }

    private static int trap(int v) {
        return v < Bench.trap(3, 0) ? v : v - Bench.trap(3, 0);
    }
}
