/** Promises 4 and 5: the registers of the module from outside. */
public final class ReadWriteTest {
    public static void main(String[] args) {
        control();
        resumeOnlyIfHalted();
        stepping();
        steppingThatIsNotDone();
        commands();
        commandErrors();
        programs();
        programEnds();
        programIgnoresTraps();
        memory();
        Bench.end();
    }

    private static void control() {
        ProbeBench x = new ProbeBench();
        x.write(Bench.CONTROL, 4);
        Bench.due("STEPPING", x.read(Bench.CONTROL), 4);
        Bench.due("it runs on", x.run(3), 3);
        x.write(Bench.CONTROL, 0xFFF8);
        Bench.due("STEPPING ends, other bits are none", x.read(Bench.CONTROL), 0);
        Bench.due("it runs on", x.read(Bench.STATUS), Bench.status(false, 0, 3));
        x.write(Bench.CONTROL, 7);
        Bench.due("bit 0 comes first", x.read(Bench.STATUS), Bench.status(true, 3, 3));
        Bench.due("STEPPING", x.read(Bench.CONTROL), 4);
        x.write(Bench.CONTROL, 1);
        Bench.due("halted already", x.read(Bench.STATUS), Bench.status(true, 3, 3));
        Bench.due("STEPPING ends", x.read(Bench.CONTROL), 0);
        x.write(Bench.CONTROL, 4);
        Bench.due("no step by STEPPING alone", x.read(Bench.STATUS), Bench.status(true, 3, 3));
        x.write(Bench.CONTROL, 3);
        Bench.due("bit 1 when bit 0 finds it halted",
            x.read(Bench.STATUS), Bench.status(false, 3, 3));
        x.write(Bench.CONTROL, 3);
        Bench.due("and bit 0 again", x.read(Bench.STATUS), Bench.status(true, 3, 3));
        x.write(Bench.CONTROL, 7);
        Bench.due("7 when halted: one step", x.read(Bench.STATUS), Bench.status(true, 4, 4));
    }

    private static void resumeOnlyIfHalted() {
        ProbeBench x = new ProbeBench();
        x.write(Bench.TRAP_0, Bench.trap(1, 0));
        x.write(Bench.CONTROL, Bench.RESUME);
        Bench.due("no resuming while it runs: the trap counts", x.run(5), 0);
        x = new ProbeBench();
        x.write(Bench.CONTROL, Bench.STEP_ONCE);
        Bench.due("no step while it runs", x.pc(), 0);
        Bench.due("STEPPING all the same", x.read(Bench.CONTROL), 4);
        Bench.due("STATUS", x.read(Bench.STATUS), 0);
        Bench.due("it runs on", x.run(5), 5);
    }

    private static void stepping() {
        ProbeBench x = Bench.with(Bench.op(1, 1, 0, 5), Bench.op(6, 0, 0, 63));
        x.write(Bench.TRAP_0, Bench.trap(1, 0));
        x.write(Bench.CONTROL, Bench.HALT);
        x.write(Bench.CONTROL, Bench.STEP_ONCE);
        Bench.due("one step, the trap not counting", x.register(1), 5);
        Bench.due("STATUS", x.read(Bench.STATUS), Bench.status(true, 4, 1));
        Bench.due("steps()", x.steps(), 1);
        x.write(Bench.CONTROL, Bench.STEP_ONCE);
        Bench.due("a jump", x.read(Bench.STATUS), Bench.status(true, 4, 63));
        Bench.due("halted", x.run(5), 0);
        x.write(Bench.CONTROL, Bench.RESUME);
        Bench.due("STATUS", x.read(Bench.STATUS), Bench.status(false, 4, 63));
        Bench.due("to the trap at 0", x.run(5), 1);
        Bench.due("STATUS", x.read(Bench.STATUS), Bench.status(true, 2, 0));
    }

    private static void steppingThatIsNotDone() {
        ProbeBench x = Bench.with(Bench.BREAK);
        x.write(Bench.CONTROL, Bench.HALT);
        x.write(Bench.TRAP_0, Bench.trap(1, 0));
        x.write(Bench.CONTROL, Bench.STEP_ONCE);
        Bench.due("a BREAK", x.read(Bench.STATUS), Bench.status(true, 1, 0));
        Bench.due("steps()", x.steps(), 0);
        Bench.load(x, 0, Bench.op(5, 0, 0, 7));
        x.write(Bench.TRAP_1, Bench.trap(2, 7));
        x.write(Bench.CONTROL, Bench.STEP_ONCE);
        Bench.due("a store", x.read(Bench.STATUS), Bench.status(true, 2, 0));
        Bench.due("steps()", x.steps(), 0);
    }

    private static void commands() {
        ProbeBench x = new ProbeBench();
        x.run(9);
        x.write(Bench.CONTROL, Bench.HALT);
        for (int r = 0; r < 8; r++) {
            Bench.setRegister(x, r, 60000 + r);
        }
        for (int r = 0; r < 8; r++) {
            Bench.due("register(" + r + ")", x.register(r), 60000 + r);
            x.write(Bench.COMMAND, 0xF8F8 | r);
            Bench.due("other bits are none", x.read(Bench.DATA), 60000 + r);
        }
        x.write(Bench.COMMAND, 0x200);
        Bench.due("DATA becomes the PC", x.read(Bench.DATA), 9);
        Bench.setPc(x, 0xFFC0 + 33);
        Bench.due("the PC becomes DATA mod 64", x.pc(), 33);
        Bench.due("DATA stays", x.read(Bench.DATA), 0xFFC0 + 33);
        Bench.due("the cause stays", x.read(Bench.STATUS), Bench.status(true, 3, 33));
        Bench.due("ERROR", x.read(Bench.ERROR), 0);
        Bench.due("steps()", x.steps(), 9);
    }

    private static void commandErrors() {
        ProbeBench x = new ProbeBench();
        x.write(Bench.DATA, 8);
        x.write(Bench.COMMAND, 0x500);
        Bench.due("while it runs", x.read(Bench.ERROR), 1);
        x.write(Bench.CONTROL, Bench.HALT);
        x.write(Bench.COMMAND, 0x101);
        Bench.due("nothing while there is an ERROR", x.register(1), 0);
        x.write(Bench.COMMAND, 0x500);
        Bench.due("the first one stays", x.read(Bench.ERROR), 1);
        x.write(Bench.ERROR, 0xFFFE);
        Bench.due("bit 0 alone clears it", x.read(Bench.ERROR), 1);
        x.write(Bench.ERROR, 0xFFFF);
        Bench.due("cleared", x.read(Bench.ERROR), 0);
        x.write(Bench.ERROR, 1);
        Bench.due("cleared twice", x.read(Bench.ERROR), 0);
        Bench.due("ADDRESS is another one", x.read(Bench.ADDRESS), 0);
        x.write(Bench.COMMAND, 0x101);
        Bench.due("it works again", x.register(1), 8);
        for (int c = 5; c < 8; c++) {
            x.write(Bench.COMMAND, c << 8);
            Bench.due("command " + c, x.read(Bench.ERROR), 2);
            x.write(Bench.ERROR, 1);
        }
        x.write(Bench.COMMAND, 0x700);
        x.write(Bench.CONTROL, Bench.RESUME);
        x.write(Bench.COMMAND, 0);
        Bench.due("2 stays while it runs", x.read(Bench.ERROR), 2);
        Bench.due("DATA", x.read(Bench.DATA), 8);
    }

    private static ProbeBench halted(int... program) {
        ProbeBench x = new ProbeBench();
        x.run(3);
        x.write(Bench.CONTROL, Bench.HALT);
        for (int i = 0; i < program.length; i++) {
            x.write(Bench.PROGRAM + i, program[i]);
        }
        return x;
    }

    private static void programs() {
        ProbeBench x = halted(Bench.op(1, 1, 0, 62), Bench.op(2, 2, 1, 0),
            Bench.op(5, 1, 2, 5), Bench.op(4, 4, 2, 5));
        x.write(Bench.COMMAND, 0x400);
        Bench.due("register(2)", x.register(2), 62);
        Bench.due("word(3)", x.word(3), 62);
        Bench.due("the last word is done too", x.register(4), 62);
        Bench.due("without the PC", x.read(Bench.STATUS), Bench.status(true, 3, 3));
        Bench.due("steps()", x.steps(), 3);
        Bench.due("ERROR", x.read(Bench.ERROR), 0);
        x.write(Bench.PROGRAM, Bench.op(3, 3, 1, 0));
        x.write(Bench.COMMAND, 0x400);
        Bench.due("again, with another word", x.register(3), 65536 - 62);
        Bench.due("register(2)", x.register(2), 124);
    }

    private static void programEnds() {
        for (int operation = 6; operation < 16; operation++) {
            boolean jump = operation < 10;
            ProbeBench x = halted(Bench.op(1, 1, 0, 1), Bench.op(operation, 6, 7, 50),
                Bench.op(1, 2, 0, 2), Bench.op(1, 3, 0, 3));
            x.write(Bench.COMMAND, 0x400);
            Bench.due("before operation " + operation, x.register(1), 1);
            Bench.due("behind it", x.register(2), operation > 10 ? 2 : 0);
            Bench.due("at the end", x.register(3), operation > 10 ? 3 : 0);
            Bench.due("ERROR", x.read(Bench.ERROR), jump ? 3 : 0);
            Bench.due("STATUS", x.read(Bench.STATUS), Bench.status(true, 3, 3));
            Bench.due("register(6)", x.register(6), 0);
        }
        ProbeBench x = halted(Bench.BREAK, Bench.op(6, 0, 0, 0), 0, 0);
        x.write(Bench.COMMAND, 0x400);
        Bench.due("a jump behind a BREAK", x.read(Bench.ERROR), 0);
        x = halted(Bench.op(7, 1, 0, 9), Bench.op(1, 1, 0, 1), 0, 0);
        x.write(Bench.COMMAND, 0x400);
        x.write(Bench.COMMAND, 0x100);
        Bench.due("ERROR 3 stays", x.read(Bench.ERROR), 3);
        Bench.due("register(1)", x.register(1), 0);
        x = halted(Bench.op(1, 1, 0, 1));
        for (int c = 0; c < 4; c++) {
            x.write(Bench.COMMAND, c << 8);
            Bench.due("not by command " + c, x.register(1), 0);
        }
        x.write(Bench.CONTROL, Bench.RESUME);
        x.write(Bench.COMMAND, 0x400);
        Bench.due("not while it runs", x.register(1), 0);
        Bench.due("ERROR", x.read(Bench.ERROR), 1);
    }

    private static void programIgnoresTraps() {
        ProbeBench x = halted(Bench.op(1, 1, 0, 9), Bench.op(5, 1, 0, 20));
        x.write(Bench.TRAP_0, Bench.trap(2, 20));
        x.write(Bench.TRAP_1, Bench.trap(1, 3));
        x.write(Bench.COMMAND, 0x400);
        Bench.due("word(20)", x.word(20), 9);
        Bench.due("STATUS", x.read(Bench.STATUS), Bench.status(true, 3, 3));
        x = halted(0);
        x.write(Bench.TRAP_0, Bench.trap(1, 3));
        x.write(Bench.CONTROL, Bench.RESUME);
        Bench.due("past the trap", x.run(1), 1);
    }

    private static void memory() {
        ProbeBench x = new ProbeBench();
        x.write(Bench.TRAP_0, Bench.trap(2, 62));
        x.write(Bench.ADDRESS, 0xFFC0 + 62);
        Bench.due("ADDRESS mod 64", x.read(Bench.ADDRESS), 62);
        x.write(Bench.MEMORY, 100);
        x.write(Bench.MEMORY, 101);
        x.write(Bench.MEMORY, 102);
        Bench.due("ADDRESS behind 63", x.read(Bench.ADDRESS), 1);
        Bench.due("word(62)", x.word(62), 100);
        Bench.due("word(63)", x.word(63), 101);
        Bench.due("word(0)", x.word(0), 102);
        Bench.due("no trap by that, and it runs", x.read(Bench.STATUS), 0);
        x.write(Bench.ADDRESS, 62);
        Bench.due("the first", x.read(Bench.MEMORY), 100);
        Bench.due("ADDRESS", x.read(Bench.ADDRESS), 63);
        Bench.due("the second", x.read(Bench.MEMORY), 101);
        Bench.due("the third", x.read(Bench.MEMORY), 102);
        Bench.due("ADDRESS", x.read(Bench.ADDRESS), 1);
        x.write(Bench.CONTROL, Bench.HALT);
        x.write(Bench.MEMORY, 65535);
        Bench.due("while it is halted", x.word(1), 65535);
        Bench.due("ADDRESS", x.read(Bench.ADDRESS), 2);
    }
}
