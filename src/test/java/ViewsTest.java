/** Promises 6 to 11: state, instruction, register, word, pc, steps. */
public final class ViewsTest {
    private static final int[] NO_INDEX = {-1, Integer.MIN_VALUE, Integer.MAX_VALUE};

    public static void main(String[] args) {
        stateAndInstruction();
        registers();
        words();
        pcAndSteps();
        viewsChangeNothing();
        Bench.end();
    }

    private static void stateAndInstruction() {
        ProbeBench x = Bench.selecting(9);
        Bench.due("IDLE", x.state(), 1);
        Bench.due("INSTRUCTION", x.instruction(), 9);
        Bench.modes(x, "111");
        Bench.due("RESET", x.state(), 0);
        Bench.due("not before RESET's own tick", x.instruction(), 9);
        x.tick(1, 1, 0);
        Bench.due("INSTRUCTION by RESET", x.instruction(), 1);
        Bench.due("RESET stays by mode 1", x.state(), 0);
        Bench.scanInstruction(x, 9);
        Bench.modes(x, "111");
        Bench.modes(x, "0");
        Bench.due("by mode 0 as well", x.instruction(), 1);
        Bench.scanInstruction(x, 0);
        Bench.due("INSTRUCTION 0", x.instruction(), 0);
        Bench.modes(x, "101110");
        Bench.due("UPDATE-D leaves it", x.instruction(), 0);
    }

    private static void registers() {
        ProbeBench x = new ProbeBench();
        x.write(Bench.CONTROL, Bench.HALT);
        for (int r = 0; r < 8; r++) {
            Bench.setRegister(x, r, 65535 - r);
        }
        for (int r = 0; r < 8; r++) {
            Bench.due("register(" + r + ")", x.register(r), 65535 - r);
        }
        for (int r : NO_INDEX) {
            Bench.due("register(" + r + ")", x.register(r), -1);
        }
        Bench.due("register(8)", x.register(8), -1);
    }

    private static void words() {
        ProbeBench x = new ProbeBench();
        for (int i = 0; i < 64; i++) {
            x.write(Bench.MEMORY, 65535 - i);
        }
        for (int i = 0; i < 64; i++) {
            Bench.due("word(" + i + ")", x.word(i), 65535 - i);
        }
        for (int i : NO_INDEX) {
            Bench.due("word(" + i + ")", x.word(i), -1);
        }
        Bench.due("word(64)", x.word(64), -1);
    }

    private static void pcAndSteps() {
        ProbeBench x = Bench.with(0, 0, Bench.op(6, 0, 0, 40));
        Bench.load(x, 41, Bench.BREAK);
        x.run(2);
        Bench.due("pc()", x.pc(), 2);
        Bench.due("steps()", x.steps(), 2);
        x.run(50);
        Bench.due("pc() at a BREAK", x.pc(), 41);
        Bench.due("steps() without the BREAK", x.steps(), 4);
        x.write(Bench.COMMAND, 0x400);
        Bench.due("steps() without the PROGRAM", x.steps(), 4);
        Bench.setPc(x, 50);
        x.write(Bench.CONTROL, Bench.STEP_ONCE);
        Bench.due("steps() with one that was asked for", x.steps(), 5);
        Bench.due("pc()", x.pc(), 51);
        x.run(0);
        x.run(51);
        Bench.due("steps() behind refusals", x.steps(), 5);
    }

    private static void viewsChangeNothing() {
        ProbeBench x = Bench.with(Bench.op(1, 1, 0, 3));
        x.run(1);
        for (int i = 0; i < 3; i++) {
            Bench.due("state()", x.state(), 0);
            Bench.due("instruction()", x.instruction(), 1);
            Bench.due("register(1)", x.register(1), 3);
            Bench.due("word(0)", x.word(0), Bench.op(1, 1, 0, 3));
            Bench.due("pc()", x.pc(), 1);
            Bench.due("steps()", x.steps(), 1);
            Bench.due("ADDRESS", x.read(Bench.ADDRESS), 1);
        }
    }
}
