/** Every call that may be refused, at its limits and beside them, and that it changes nothing. */
public final class RefusalTest {
    private static final int LEAST = Integer.MIN_VALUE;
    private static final int MOST = Integer.MAX_VALUE;
    private static final String NOTHING = "A call that is refused changes nothing.";

    public static void main(String[] args) {
        refusedTicks(-1, 0, 25, 26);
        refusedRuns(-1, 0, 51, 52);
        // A program that lets these pass would take the far ones for very long loops.
        Bench.endIfWrong();
        refusedTicks(LEAST, -24, 32, 33, 256 + 1, 65536 + 1, MOST);
        refusedRuns(LEAST, -50, 64, 100, 256 + 1, 65536 + 1, MOST);
        ticks();
        runs();
        reads();
        writes();
        registers();
        words();
        manyRefusals();
        Bench.end();
    }

    private static void refusedTicks(int... numbers) {
        for (int n : numbers) {
            Bench.about("-1, refused, if n is not 1 .. 24.");
            for (Twins.Past past : Twins.Past.values()) {
                Bench.due(past + ", tick of " + n, Twins.object(past).tick(n, -1, -1), -1);
            }
            Bench.about(NOTHING);
            for (int bits = -1; bits <= 0; bits++) {
                int each = bits;
                Twins.changeNothing("tick of " + n, x -> x.tick(n, each, each));
            }
        }
    }

    private static void ticks() {
        Bench.about("-1, refused, if n is not 1 .. 24.");
        for (Twins.Past past : Twins.Past.values()) {
            for (int n : new int[] {1, 2, 23, 24}) {
                int outputs = Twins.object(past).tick(n, 0, -1);
                Bench.due(past + ", outputs of tick of " + n + " within n bits",
                    outputs >>> n, 0);
            }
        }
    }

    private static void refusedRuns(int... numbers) {
        for (int n : numbers) {
            Bench.about("-1, refused, if n is not 1 .. 50.");
            for (Twins.Past past : Twins.Past.values()) {
                Bench.due(past + ", run(" + n + ")", Twins.object(past).run(n), -1);
            }
            Bench.about(NOTHING);
            Twins.changeNothing("run(" + n + ")", x -> x.run(n));
        }
    }

    private static void runs() {
        Bench.about("-1, refused, if n is not 1 .. 50.");
        for (int n : new int[] {1, 2, 49, 50}) {
            Bench.due("run(" + n + ")", new ProbeBench().run(n), n);
            Bench.due("halted, run(" + n + ")", Bench.halted().run(n), 0);
        }
    }

    private static void reads() {
        for (int r : new int[] {LEAST, -16, -1, 16, 17, 16 + Bench.MEMORY, 256, 65536, MOST}) {
            Bench.about("-1 if it is not 0 .. 15.");
            for (Twins.Past past : Twins.Past.values()) {
                Bench.due(past + ", read(" + r + ")", Twins.object(past).read(r), -1);
            }
            Bench.about(NOTHING);
            Twins.changeNothing("read(" + r + ")", x -> x.read(r));
        }
        Bench.about("-1 if it is not 0 .. 15.");
        ProbeBench x = Bench.halted();
        x.write(Bench.CONTROL, 4);
        x.write(Bench.DATA, 11);
        Bench.due("read(0)", x.read(0), 4);
        Bench.due("read(1)", x.read(1), Bench.status(true, 3, 0));
        Bench.due("read(14)", x.read(14), 0);
        Bench.due("read(15)", x.read(15), 0);
    }

    private static void writes() {
        for (int r : new int[] {LEAST, -16, -1, 16, 17, 16 + Bench.MEMORY, 256, 65536, MOST}) {
            for (int v : new int[] {0, 1, 2, 65535, -1}) {
                Bench.about("false if it is not 0 .. 15.");
                for (Twins.Past past : Twins.Past.values()) {
                    Bench.due(past + ", write(" + r + ", " + v + ")",
                        Twins.object(past).write(r, v), false);
                }
                Bench.about(NOTHING);
                Twins.changeNothing("write(" + r + ", " + v + ")", x -> x.write(r, v));
            }
        }
        Bench.about("false if it is not 0 .. 15.");
        for (Twins.Past past : Twins.Past.values()) {
            ProbeBench x = Twins.object(past);
            for (int r = 0; r < 16; r++) {
                Bench.due(past + ", write(" + r + ", 3)", x.write(r, 3), true);
            }
        }
    }

    private static void registers() {
        for (int r : new int[] {LEAST, -8, -1, 8, 9, 16, 256, 65536, MOST}) {
            Bench.about("Register r of the processor; -1 if there is none.");
            for (Twins.Past past : Twins.Past.values()) {
                Bench.due(past + ", register(" + r + ")", Twins.object(past).register(r), -1);
            }
            Bench.about(NOTHING);
            Twins.changeNothing("register(" + r + ")", x -> x.register(r));
        }
        Bench.about("Register r of the processor; -1 if there is none.");
        ProbeBench x = Bench.halted();
        for (int r = 0; r < 8; r++) {
            Bench.setRegister(x, r, 65535 - r);
        }
        for (int r = 0; r < 8; r++) {
            Bench.due("register(" + r + ")", x.register(r), 65535 - r);
        }
    }

    private static void words() {
        for (int i : new int[] {LEAST, -64, -1, 64, 65, 128, 256, 65536, MOST}) {
            Bench.about("The word at an address; -1 if there is none.");
            for (Twins.Past past : Twins.Past.values()) {
                Bench.due(past + ", word(" + i + ")", Twins.object(past).word(i), -1);
            }
            Bench.about(NOTHING);
            Twins.changeNothing("word(" + i + ")", x -> x.word(i));
        }
        Bench.about("The word at an address; -1 if there is none.");
        ProbeBench x = new ProbeBench();
        for (int i = 0; i < 64; i++) {
            x.write(Bench.MEMORY, 65535 - i);
        }
        for (int i = 0; i < 64; i++) {
            Bench.due("word(" + i + ")", x.word(i), 65535 - i);
        }
    }

    private static void manyRefusals() {
        Bench.about(NOTHING);
        Twins.changeNothing("all refused calls, one after the other", x -> {
            for (int i = 0; i < 5; i++) {
                x.tick(0, -1, -1);
                x.tick(25, -1, -1);
                x.run(0);
                x.run(51);
                x.read(-1);
                x.read(16);
                x.write(-1, -1);
                x.write(16, -1);
                x.register(-1);
                x.register(8);
                x.word(-1);
                x.word(64);
            }
        });
    }
}
