/** Promise 1: all as at first. */
public final class NewObjectTest {
    public static void main(String[] args) {
        ProbeBench used = Bench.with(Bench.op(1, 1, 0, 7), Bench.op(6, 0, 0, 0));
        used.run(9);
        used.write(Bench.TRAP_0, 70);
        used.write(Bench.CONTROL, 5);
        // A used object leaves nothing behind for the next one.
        Bench.about("All as at first: nothing is set.");
        allAsAtFirst(new ProbeBench());
        objectsAreApart();
        runsAtFirst();
        hasNoTrapAtFirst();
        doesNotStepAtFirst();
        hasNotBeenResumed();
        pinsAtFirst();
        nothingBegunAtFirst();
        Bench.end();
    }

    private static void objectsAreApart() {
        ProbeBench[] others = new ProbeBench[Twins.Past.values().length];
        ProbeBench x = new ProbeBench();
        for (Twins.Past past : Twins.Past.values()) {
            others[past.ordinal()] = Twins.object(past);
        }
        allAsAtFirst(x);
        for (ProbeBench other : others) {
            other.run(50);
        }
        Bench.due("steps() of the first one", x.steps(), 0);
    }

    private static void allAsAtFirst(ProbeBench x) {
        Bench.due("state()", x.state(), 0);
        Bench.due("instruction()", x.instruction(), 1);
        Bench.due("pc()", x.pc(), 0);
        Bench.due("steps()", x.steps(), 0);
        for (int r = 0; r < 8; r++) {
            Bench.due("register(" + r + ")", x.register(r), 0);
        }
        for (int i = 0; i < 64; i++) {
            Bench.due("word(" + i + ")", x.word(i), 0);
        }
        for (int r = 0; r < 16; r++) {
            Bench.due("read(" + r + ")", x.read(r), r == Bench.IDENTITY ? 23130 : 0);
        }
    }

    private static void runsAtFirst() {
        Bench.about("it RUNS (at first)");
        ProbeBench x = new ProbeBench();
        Bench.due("STATUS: running, no cause yet, PC 0", x.read(Bench.STATUS), 0);
        Bench.due("run(1) of a new object", x.run(1), 1);
        Bench.due("pc() behind it", x.pc(), 1);
        x = new ProbeBench();
        x.write(Bench.COMMAND, 0);
        Bench.due("a command finds it running", x.read(Bench.ERROR), 1);
    }

    private static void hasNoTrapAtFirst() {
        Bench.about("All as at first: nothing is set.");
        ProbeBench x = Bench.with(Bench.op(5, 0, 0, 0));
        Bench.due("a store at 0 by the instruction at 0", x.run(1), 1);
        x = new ProbeBench();
        x.run(50);
        Bench.due("once round through all places", x.run(50), 50);
        Bench.due("pc()", x.pc(), 36);
    }

    private static void doesNotStepAtFirst() {
        ProbeBench x = new ProbeBench();
        Bench.due("STEPPING", x.read(Bench.CONTROL), 0);
        Bench.due("run(2)", x.run(2), 2);
        x.write(Bench.CONTROL, Bench.HALT);
        x.write(Bench.CONTROL, Bench.RESUME);
        Bench.due("no step at once", x.steps(), 2);
    }

    private static void hasNotBeenResumed() {
        ProbeBench x = new ProbeBench();
        x.write(Bench.TRAP_0, Bench.trap(1, 0));
        Bench.due("a trap at 0 counts for the very first step", x.run(1), 0);
    }

    private static void pinsAtFirst() {
        Bench.about("It begins in RESET. INSTRUCTION is 1 at first.");
        ProbeBench x = new ProbeBench();
        Bench.due("state()", x.state(), 0);
        Bench.due("instruction()", x.instruction(), 1);
        x.tick(1, 1, 0);
        Bench.due("RESET by mode 1", x.state(), 0);
        Bench.modes(x, "0");
        Bench.due("IDENTITY is selected at first", Bench.scanData(x, 16, 0), 23130);
    }

    private static void nothingBegunAtFirst() {
        Bench.about("(VALUE and number are 0 before)");
        ProbeBench x = Bench.selecting(3);
        Bench.due("no operation, value or number yet", Bench.scanData(x, 22, 0), 0);
        Bench.about("else if an operation was begun before");
        x = Bench.selecting(3);
        x.write(Bench.DATA, 5);
        Bench.scanData(x, 22, Bench.access(1, 0, Bench.DATA));
        Bench.due("the first operation is never too early", Bench.scanData(x, 22, 0),
            Bench.access(0, 5, Bench.DATA));
        Bench.about("BUSY's state (0 or 3)");
        x = Bench.selecting(2);
        Bench.due("not BUSY", Bench.scanData(x, 4, 0), 0);
    }
}
