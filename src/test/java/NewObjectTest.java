/** Promise 1: all as at first. */
public final class NewObjectTest {
    public static void main(String[] args) {
        ProbeBench used = Bench.with(Bench.op(1, 1, 0, 7), Bench.op(6, 0, 0, 0));
        used.run(9);
        used.write(Bench.TRAP_0, 70);
        used.write(Bench.CONTROL, 5);
        // A used object leaves nothing behind for the next one.
        allAsAtFirst(new ProbeBench());
        runsAtFirst();
        hasNoTrapAtFirst();
        pinsAtFirst();
        Bench.end();
    }

    private static void allAsAtFirst(ProbeBench x) {
        Bench.due("state()", x.state(), 0);
        Bench.due("instruction()", x.instruction(), 1);
        Bench.due("pc()", x.pc(), 0);
        Bench.due("steps()", x.steps(), 0);
        for (int r = 0; r < 8; r++) {
            Bench.due("register(" + r + ")", x.register(r), 0);
        }
        for (int i = 0; i < 64; i++) {
            Bench.due("word(" + i + ")", x.word(i), 0);
        }
        for (int r = 0; r < 16; r++) {
            Bench.due("read(" + r + ")", x.read(r), r == Bench.IDENTITY ? 23130 : 0);
        }
    }

    private static void runsAtFirst() {
        ProbeBench x = new ProbeBench();
        Bench.due("run(1) of a new object", x.run(1), 1);
        Bench.due("pc() behind it", x.pc(), 1);
    }

    private static void hasNoTrapAtFirst() {
        ProbeBench x = Bench.with(Bench.op(5, 0, 0, 0));
        Bench.due("a store at 0 by the instruction at 0", x.run(1), 1);
    }

    private static void pinsAtFirst() {
        ProbeBench x = Bench.selecting(3);
        Bench.due("no operation, value or number yet", Bench.scanData(x, 22, 0), 0);
        x = new ProbeBench();
        Bench.modes(x, "0");
        Bench.due("IDENTITY is selected at first", Bench.scanData(x, 16, 0), 23130);
    }
}
