/** Promise 3: steps of the processor, its operations, traps, BREAK and causes. */
public final class RunTest {
    public static void main(String[] args) {
        countsSteps();
        arithmetic();
        memoryOperations();
        jumps();
        call();
        breaks();
        instructionTraps();
        storeTraps();
        resumeIsForOneStep();
        Bench.end();
    }

    private static void countsSteps() {
        ProbeBench x = new ProbeBench();
        Bench.due("run(1)", x.run(1), 1);
        Bench.due("run(7)", x.run(7), 7);
        Bench.due("pc()", x.pc(), 8);
        x.write(Bench.CONTROL, Bench.HALT);
        Bench.due("run(7), halted", x.run(7), 0);
        Bench.due("run(0), halted", x.run(0), -1);
        Bench.due("pc(), halted", x.pc(), 8);
        Bench.due("cause 3 stays", x.read(Bench.STATUS), Bench.status(true, 3, 8));
    }

    private static void arithmetic() {
        ProbeBench x = Bench.with(
            Bench.op(1, 7, 5, 63), Bench.op(1, 1, 0, 1), Bench.op(3, 0, 1, 0),
            Bench.op(2, 2, 0, 0), Bench.op(2, 2, 1, 0), Bench.op(2, 0, 0, 0),
            Bench.op(3, 7, 7, 0), Bench.op(3, 7, 0, 9));
        x.run(1);
        Bench.due("1: n alone", x.register(7), 63);
        x.run(2);
        Bench.due("3: 0 - 1", x.register(0), 65535);
        x.run(1);
        Bench.due("2: 0 + 65535", x.register(2), 65535);
        x.run(1);
        Bench.due("2: 65535 + 1", x.register(2), 0);
        x.run(1);
        Bench.due("2: a to itself", x.register(0), 65534);
        x.run(1);
        Bench.due("3: a from itself", x.register(7), 0);
        x.run(1);
        Bench.due("3: 0 - 65534, n doesn't count", x.register(7), 2);
        Bench.due("b stays", x.register(0), 65534);
        Bench.load(x, 8, Bench.op(1, 3, 7, 40));
        x.run(1);
        Bench.due("1: b doesn't count", x.register(3), 40);
    }

    private static void memoryOperations() {
        ProbeBench x = Bench.with(
            Bench.op(1, 1, 0, 60), Bench.op(1, 2, 0, 44), Bench.op(5, 2, 1, 3),
            Bench.op(5, 2, 1, 10), Bench.op(4, 3, 1, 10), Bench.op(4, 4, 1, 4),
            Bench.op(3, 5, 2, 0), Bench.op(5, 5, 5, 63));
        x.run(3);
        Bench.due("5: at 60 + 3", x.word(63), 44);
        x.run(1);
        Bench.due("5: at (60 + 10) mod 64", x.word(6), 44);
        x.run(1);
        Bench.due("4: from (60 + 10) mod 64", x.register(3), 44);
        x.run(1);
        Bench.due("4: from (60 + 4) mod 64", x.register(4), Bench.op(1, 1, 0, 60));
        Bench.load(x, 6, Bench.op(3, 5, 2, 0));
        x.run(2);
        Bench.due("5: b above 63, at (65492 + 63) mod 64", x.word(19), 65492);
        Bench.due("the register stays", x.register(5), 65492);
        x = Bench.with(Bench.op(1, 1, 0, 0), Bench.op(4, 1, 0, 3), Bench.op(5, 1, 0, 3));
        Bench.load(x, 3, Bench.op(6, 0, 0, 20));
        x.run(3);
        Bench.load(x, 3, Bench.op(6, 0, 0, 30));
        x.run(1);
        Bench.due("a changed word is done as it is then", x.pc(), 30);
    }

    private static void jumps() {
        ProbeBench x = Bench.with(Bench.op(6, 7, 7, 63));
        Bench.load(x, 63, Bench.op(7, 1, 0, 10));
        x.run(1);
        Bench.due("6", x.pc(), 63);
        x.run(1);
        Bench.due("7, register 1 being 0", x.pc(), 10);
        Bench.load(x, 10, Bench.op(1, 1, 0, 2), Bench.op(7, 1, 0, 30), Bench.op(7, 2, 1, 31));
        x.run(2);
        Bench.due("7, register 1 being 2", x.pc(), 12);
        x.run(1);
        Bench.due("7 looks at a, not b", x.pc(), 31);
        Bench.load(x, 31, Bench.op(6, 1, 1, 31));
        Bench.due("a jump to itself", x.run(50), 50);
        Bench.due("pc()", x.pc(), 31);
    }

    private static void call() {
        ProbeBench x = Bench.with(Bench.op(1, 2, 0, 20), Bench.op(9, 1, 2, 7));
        Bench.load(x, 20, Bench.op(9, 1, 1, 0));
        x.run(2);
        Bench.due("9: PC", x.pc(), 20);
        Bench.due("9: a", x.register(1), 2);
        Bench.due("9: b", x.register(2), 20);
        x.run(1);
        Bench.due("9 with a and b the same: PC", x.pc(), 2);
        Bench.due("9 with a and b the same: a", x.register(1), 21);
        x.write(Bench.CONTROL, Bench.HALT);
        Bench.setRegister(x, 5, 65535);
        Bench.load(x, 63, Bench.op(9, 6, 5, 0));
        Bench.setPc(x, 63);
        x.write(Bench.CONTROL, Bench.RESUME);
        x.run(1);
        Bench.due("9: 65535 mod 64", x.pc(), 63);
        Bench.due("9: behind 63 is 0", x.register(6), 0);
    }

    private static void breaks() {
        ProbeBench x = Bench.with(0, 0, Bench.BREAK | 0xFFF, Bench.op(1, 1, 0, 1));
        Bench.due("up to the BREAK", x.run(50), 2);
        Bench.due("STATUS", x.read(Bench.STATUS), Bench.status(true, 1, 2));
        Bench.due("steps()", x.steps(), 2);
        Bench.due("halted now", x.run(50), 0);
        x.write(Bench.CONTROL, Bench.RESUME);
        Bench.due("resumed", x.read(Bench.STATUS), Bench.status(false, 1, 2));
        Bench.due("at the BREAK again", x.run(50), 0);
        Bench.due("STATUS", x.read(Bench.STATUS), Bench.status(true, 1, 2));
        Bench.setPc(x, 3);
        x.write(Bench.CONTROL, Bench.RESUME);
        Bench.due("behind it", x.run(1), 1);
        Bench.due("register(1)", x.register(1), 1);
    }

    private static void instructionTraps() {
        for (int t = Bench.TRAP_0; t <= Bench.TRAP_1; t++) {
            ProbeBench x = Bench.with(Bench.op(1, 1, 0, 1), Bench.op(1, 1, 0, 2));
            x.write(t, Bench.trap(1, 1));
            Bench.due("up to the trap", x.run(50), 1);
            Bench.due("STATUS", x.read(Bench.STATUS), Bench.status(true, 2, 1));
            Bench.due("not done", x.register(1), 1);
            Bench.due("steps()", x.steps(), 1);
            x.write(Bench.CONTROL, Bench.RESUME);
            Bench.due("runs, the cause staying", x.read(Bench.STATUS), Bench.status(false, 2, 1));
            Bench.due("past it", x.run(50), 50);
            Bench.due("done", x.register(1), 2);
            Bench.due("round to it again", x.run(50), 14);
            Bench.due("STATUS", x.read(Bench.STATUS), Bench.status(true, 2, 1));
        }
        ProbeBench x = new ProbeBench();
        x.write(Bench.TRAP_0, Bench.trap(1, 0));
        Bench.due("a trap at 0 at once", x.run(1), 0);
        Bench.due("STATUS", x.read(Bench.STATUS), Bench.status(true, 2, 0));
        x = new ProbeBench();
        x.write(Bench.TRAP_0, Bench.trap(1, 63));
        x.write(Bench.TRAP_1, Bench.trap(1, 5));
        Bench.due("to the second", x.run(50), 5);
        x.write(Bench.CONTROL, Bench.RESUME);
        x.run(50);
        Bench.due("to the first", x.run(50), 8);
        Bench.due("pc()", x.pc(), 63);
    }

    private static void storeTraps() {
        for (int t = Bench.TRAP_0; t <= Bench.TRAP_1; t++) {
            ProbeBench x = Bench.with(Bench.op(1, 1, 0, 60), Bench.op(5, 1, 1, 5),
                Bench.op(5, 1, 1, 6), Bench.op(4, 2, 1, 14));
            x.write(t, Bench.trap(2, 2));
            Bench.due("up to the store at 2", x.run(50), 2);
            Bench.due("the store at 1 was done", x.word(1), 60);
            Bench.due("STATUS", x.read(Bench.STATUS), Bench.status(true, 2, 2));
            Bench.due("not done", x.word(2), Bench.op(5, 1, 1, 6));
            x.write(Bench.CONTROL, Bench.RESUME);
            Bench.due("a trap of kind 2 counts at once", x.run(50), 0);
            Bench.due("STATUS", x.read(Bench.STATUS), Bench.status(true, 2, 2));
            Bench.due("steps()", x.steps(), 2);
            x.write(t, Bench.trap(2, 10));
            x.write(Bench.CONTROL, Bench.RESUME);
            Bench.due("a load from 10 is no store", x.run(2), 2);
            Bench.due("the store was done", x.word(2), 60);
        }
    }

    private static void resumeIsForOneStep() {
        ProbeBench x = Bench.with(Bench.op(6, 0, 0, 0));
        x.write(Bench.TRAP_0, Bench.trap(1, 0));
        x.run(1);
        x.write(Bench.CONTROL, Bench.RESUME);
        Bench.due("one step, then the trap", x.run(50), 1);
        Bench.due("STATUS", x.read(Bench.STATUS), Bench.status(true, 2, 0));
        x = new ProbeBench();
        x.write(Bench.CONTROL, Bench.HALT);
        x.write(Bench.TRAP_0, Bench.trap(1, 0));
        x.write(Bench.TRAP_1, Bench.trap(1, 1));
        x.write(Bench.CONTROL, Bench.RESUME);
        Bench.due("past the first, not the second", x.run(50), 1);
        Bench.due("STATUS", x.read(Bench.STATUS), Bench.status(true, 2, 1));
        x.write(Bench.TRAP_0, Bench.trap(2, 40));
        Bench.load(x, 1, Bench.op(5, 0, 0, 40));
        x.write(Bench.CONTROL, Bench.RESUME);
        Bench.due("past kind 1, not kind 2", x.run(50), 0);
        Bench.due("STATUS", x.read(Bench.STATUS), Bench.status(true, 2, 1));
    }
}
