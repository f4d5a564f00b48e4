/** Promises 6 to 11: state, instruction, register, word, pc, steps, with their boundary cases. */
public final class ViewsTest {
    public static void main(String[] args) {
        states();
        instructions();
        registers();
        words();
        pc();
        steps();
        programIsNotCounted();
        whatIsNotDoneIsNotCounted();
        manySteps();
        viewsChangeNothing();
        Bench.end();
    }

    private static void states() {
        Bench.about("The state of the pins (0 .. 15).");
        ProbeBench x = new ProbeBench();
        Bench.due("at first", x.state(), 0);
        for (int s = 0; s < 16; s++) {
            x = new ProbeBench();
            Bench.modes(x, Bench.WAY[s]);
            Bench.due("by " + Bench.WAY[s], x.state(), s);
        }
    }

    private static void instructions() {
        Bench.about("INSTRUCTION becomes the row (4 bits).");
        for (int i = 0; i < 16; i++) {
            ProbeBench x = Bench.selecting(i);
            Bench.due("INSTRUCTION", x.instruction(), i);
            Bench.modes(x, "10110");
            Bench.due("UPDATE-D leaves it", x.instruction(), i);
            Bench.modes(x, "111");
            Bench.due("RESET", x.state(), 0);
            Bench.due("not before RESET's own tick", x.instruction(), i);
            x.tick(1, i & 1, 0);
            Bench.due("by RESET", x.instruction(), 1);
        }
    }

    private static void registers() {
        Bench.about("Register r of the processor; -1 if there is none.");
        ProbeBench x = Bench.with(Bench.op(1, 0, 0, 1), Bench.op(3, 7, 0, 0));
        x.run(2);
        Bench.due("register(-1)", x.register(-1), -1);
        Bench.due("register(0)", x.register(0), 1);
        Bench.due("register(7)", x.register(7), 65535);
        Bench.due("register(8)", x.register(8), -1);
    }

    private static void words() {
        Bench.about("The word at an address; -1 if there is none.");
        ProbeBench x = new ProbeBench();
        Bench.load(x, 63, 65535, 65534);
        Bench.due("word(-1)", x.word(-1), -1);
        Bench.due("word(0)", x.word(0), 65534);
        Bench.due("word(63)", x.word(63), 65535);
        Bench.due("word(64)", x.word(64), -1);
    }

    private static void pc() {
        Bench.about("The PC.");
        ProbeBench x = new ProbeBench();
        for (int i = 0; i <= 64; i++) {
            Bench.due("pc() behind " + i + " steps", x.pc(), i & 63);
            Bench.due("and in STATUS", x.read(Bench.STATUS), Bench.status(false, 0, i & 63));
            x.run(1);
        }
        x = Bench.with(Bench.op(6, 0, 0, 40));
        Bench.load(x, 41, Bench.BREAK);
        x.run(1);
        Bench.due("behind a jump", x.pc(), 40);
        x.run(50);
        Bench.due("at a BREAK", x.pc(), 41);
        Bench.setPc(x, 64 + 50);
        Bench.due("set from outside", x.pc(), 50);
    }

    private static void steps() {
        Bench.about("How many steps the processor has done, in all");
        ProbeBench x = new ProbeBench();
        Bench.due("at first", x.steps(), 0);
        x.run(1);
        Bench.due("behind one", x.steps(), 1);
        x.run(50);
        Bench.due("behind 51", x.steps(), 51);
        x.write(Bench.CONTROL, Bench.HALT);
        x.run(50);
        Bench.due("halted", x.steps(), 51);
        x.write(Bench.CONTROL, Bench.STEP_ONCE);
        Bench.due("one that was asked for", x.steps(), 52);
        Bench.setPc(x, 0);
        Bench.due("a new PC", x.steps(), 52);
        x.write(Bench.CONTROL, Bench.RESUME);
        Bench.due("resumed", x.steps(), 52);
        x.run(3);
        Bench.due("behind three more", x.steps(), 55);
    }

    private static void programIsNotCounted() {
        Bench.about("(those of the PROGRAM not counted)");
        ProbeBench x = new ProbeBench();
        x.run(2);
        x.write(Bench.CONTROL, Bench.HALT);
        for (int i = 0; i < 4; i++) {
            x.write(Bench.PROGRAM + i, Bench.op(1, i, 0, 9));
        }
        x.write(Bench.COMMAND, 0x400);
        Bench.due("it was done", x.register(3), 9);
        Bench.due("four words", x.steps(), 2);
        x.write(Bench.PROGRAM + 1, Bench.BREAK);
        x.write(Bench.COMMAND, 0x400);
        Bench.due("up to a BREAK", x.steps(), 2);
        x.write(Bench.PROGRAM + 1, Bench.op(6, 0, 0, 9));
        x.write(Bench.COMMAND, 0x400);
        Bench.due("up to a jump", x.steps(), 2);
    }

    private static void whatIsNotDoneIsNotCounted() {
        Bench.about("(this is no step that was done)");
        ProbeBench x = Bench.with(0, Bench.BREAK);
        x.run(50);
        Bench.due("a BREAK", x.steps(), 1);
        x.write(Bench.CONTROL, Bench.STEP_ONCE);
        Bench.due("a BREAK, asked for", x.steps(), 1);
        Bench.load(x, 1, Bench.op(5, 0, 0, 40));
        x.write(Bench.TRAP_0, Bench.trap(2, 40));
        x.write(Bench.CONTROL, Bench.STEP_ONCE);
        Bench.due("a store trap, asked for", x.steps(), 1);
        x.write(Bench.CONTROL, Bench.RESUME);
        x.run(50);
        Bench.due("a store trap", x.steps(), 1);
        x.write(Bench.TRAP_0, Bench.trap(1, 2));
        x.write(Bench.CONTROL, Bench.RESUME);
        x.run(50);
        Bench.due("a trap at an instruction", x.steps(), 2);
    }

    /** As many steps as an object can do in its 512 calls. */
    private static void manySteps() {
        Bench.about("An object is used for at most 512 calls after it has been made");
        ProbeBench x = new ProbeBench();
        for (int i = 1; i <= 510; i++) {
            Bench.due("run(50), call " + i, x.run(50), 50);
        }
        Bench.due("steps(), call 511", x.steps(), 510 * 50);
        Bench.due("pc(), call 512", x.pc(), 510 * 50 % 64);
        x = Bench.selecting(0);
        Bench.modes(x, "100");
        for (int i = 5; i <= 512; i++) {
            Bench.due("tick of 24, call " + i, x.tick(24, 0, 0x800000), i == 5 ? 0 : 1);
        }
    }

    private static void viewsChangeNothing() {
        Bench.about("the answers and state changes described above");
        Twins.changeNothing("views", x -> {
            x.state();
            x.instruction();
            x.register(0);
            x.register(7);
            x.word(0);
            x.word(63);
            x.pc();
            x.steps();
        });
    }
}
