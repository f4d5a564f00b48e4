/** The boundary cases of promise 3 and of the processor, sentence by sentence. */
public final class RunEdgesTest {
    private static final int[] ENDS_OF_MEMORY = {0, 1, 62, 63};

    public static void main(String[] args) {
        upToN();
        asLongAsItRuns();
        behind63();
        partsOfAnInstruction();
        setsN();
        sumsMod65536();
        differencesMod65536();
        loadsMod64();
        storesMod64();
        goes();
        goesIfZero();
        goesIfLess();
        callsMod64();
        callsWithTheSameRegister();
        nothingElse();
        breaks();
        instructionTraps();
        storeTraps();
        storeTrapsByEachRegister();
        storesAlone();
        kindsAreApart();
        bothTraps();
        trapBeforeBreak();
        causes();
        Bench.end();
    }

    /** A new object that has the instruction w at the PC; its registers a and b are set. */
    private static ProbeBench before(int pc, int w, int a, int valueOfA, int b, int valueOfB) {
        ProbeBench x = Bench.halted();
        Bench.load(x, pc, w);
        Bench.setRegister(x, a, valueOfA);
        Bench.setRegister(x, b, valueOfB);
        Bench.setPc(x, pc);
        x.write(Bench.CONTROL, Bench.RESUME);
        return x;
    }

    private static ProbeBench startingAt(int pc) {
        ProbeBench x = Bench.halted();
        Bench.setPc(x, pc);
        x.write(Bench.CONTROL, Bench.RESUME);
        return x;
    }

    private static void upToN() {
        Bench.about("Up to n steps of the processor");
        for (int n = 1; n <= 50; n++) {
            ProbeBench x = new ProbeBench();
            Bench.due("run(" + n + ")", x.run(n), n);
            Bench.due("pc()", x.pc(), n);
            Bench.due("steps()", x.steps(), n);
            Bench.due("it runs on", x.read(Bench.STATUS), Bench.status(false, 0, n));
        }
    }

    private static void asLongAsItRuns() {
        Bench.about("as long as it runs: how many were done");
        for (int at : new int[] {0, 1, 7, 49, 50}) {
            for (int n : new int[] {at - 1, at, at + 1, 50}) {
                if (n < 1 || n > 50) {
                    continue;
                }
                ProbeBench broken = new ProbeBench();
                Bench.load(broken, at, Bench.BREAK);
                stops("a BREAK at " + at, broken, n, at, 1);
                ProbeBench trapped = new ProbeBench();
                trapped.write(Bench.TRAP_0, Bench.trap(1, at));
                stops("a trap at " + at, trapped, n, at, 2);
                ProbeBench storing = new ProbeBench();
                Bench.load(storing, at, Bench.op(5, 0, 0, 60));
                storing.write(Bench.TRAP_1, Bench.trap(2, 60));
                stops("a store at " + at, storing, n, at, 2);
            }
        }
        ProbeBench x = Bench.halted();
        Bench.due("halted, run(1)", x.run(1), 0);
        Bench.due("halted, run(50)", x.run(50), 0);
        Bench.due("STATUS", x.read(Bench.STATUS), Bench.status(true, 3, 0));
    }

    /** The stop is met only by a step more than lie before it. */
    private static void stops(String what, ProbeBench x, int n, int at, int cause) {
        int done = Math.min(n, at);
        boolean halted = n > at;
        Bench.due(what + ", run(" + n + ")", x.run(n), done);
        Bench.due(what + ", STATUS", x.read(Bench.STATUS),
            Bench.status(halted, halted ? cause : 0, done));
        Bench.due(what + ", steps()", x.steps(), done);
    }

    private static void behind63() {
        Bench.about("the PC becomes the next one (behind 63 is 0)");
        for (int operation : new int[] {0, 1, 2, 3, 4, 5, 7, 8, 11, 12, 13, 14, 15}) {
            for (int pc : ENDS_OF_MEMORY) {
                // Register 1 is 5 and so not 0, and not less than register 2.
                ProbeBench x = before(pc, Bench.op(operation, 1, 2, 30), 1, 5, 2, 5);
                Bench.due("run(1)", x.run(1), 1);
                Bench.due("operation " + operation + " at " + pc, x.pc(), pc == 63 ? 0 : pc + 1);
            }
        }
        ProbeBench x = startingAt(62);
        Bench.due("run(50) round the end", x.run(50), 50);
        Bench.due("pc()", x.pc(), 48);
    }

    private static void partsOfAnInstruction() {
        Bench.about("a = w >> 9 & 7, b = w >> 6 & 7, n = w & 63");
        for (int a = 0; a < 8; a++) {
            for (int b = 0; b < 8; b++) {
                for (int operation = 0; operation < 16; operation++) {
                    if (operation != 10) {
                        registersByParts(operation, a, b);
                    }
                }
            }
        }
    }

    /** Register r is 17 * r + 3; the word at i is 0xB000 + i, which is a step that does nothing. */
    private static void registersByParts(int operation, int a, int b) {
        int[] value = new int[8];
        ProbeBench x = Bench.halted();
        for (int r = 0; r < 8; r++) {
            value[r] = 17 * r + 3;
            Bench.setRegister(x, r, value[r]);
        }
        for (int i = 0; i < 64; i++) {
            x.write(Bench.MEMORY, 0xB000 + i);
        }
        Bench.load(x, 63, Bench.op(operation, a, b, 42));
        Bench.setPc(x, 63);
        x.write(Bench.CONTROL, Bench.RESUME);
        x.run(1);
        String what = "operation " + operation + ", a = " + a + ", b = " + b + ", ";
        int place = value[b] + 42 & 63;
        for (int r = 0; r < 8; r++) {
            Bench.due(what + "register " + r, x.register(r),
                r == a ? valueOfA(operation, value[a], value[b]) : value[r]);
        }
        Bench.due(what + "the word", x.word(place), operation == 5 ? value[a] : 0xB000 + place);
        Bench.due(what + "the PC", x.pc(), pcBehind(operation, value[a], value[b]));
    }

    private static int valueOfA(int operation, int a, int b) {
        return switch (operation) {
            case 1 -> 42;
            case 2 -> a + b;
            case 3 -> a - b & 65535;
            case 4 -> 0xB000 + (b + 42 & 63);
            case 9 -> 0;
            default -> a;
        };
    }

    private static int pcBehind(int operation, int a, int b) {
        return switch (operation) {
            case 6 -> 42;
            case 8 -> a < b ? 42 : 0;
            case 9 -> b & 63;
            default -> 0;
        };
    }

    private static void setsN() {
        Bench.about("1 register a becomes n.");
        for (int n = 0; n < 64; n++) {
            ProbeBench x = before(0, Bench.op(1, 3, 0, n), 3, 65535, 0, 1);
            x.run(1);
            Bench.due("n = " + n, x.register(3), n);
        }
    }

    private static void sumsMod65536() {
        Bench.about("2 a becomes a + b. ... (both mod 65536)");
        int[][] cases = {{65534, 1, 65535}, {65535, 1, 0}, {65535, 2, 1}, {1, 65535, 0},
            {65535, 65535, 65534}, {32767, 1, 32768}, {32768, 32768, 0}, {32768, 32767, 65535},
            {0, 0, 0}, {0, 65535, 65535}, {65535, 0, 65535}};
        for (int[] c : cases) {
            ProbeBench x = before(0, Bench.op(2, 1, 2, 0), 1, c[0], 2, c[1]);
            x.run(1);
            Bench.due(c[0] + " + " + c[1], x.register(1), c[2]);
            Bench.due("b stays", x.register(2), c[1]);
        }
        ProbeBench x = before(0, Bench.op(2, 1, 1, 0), 1, 32769, 1, 32769);
        x.run(1);
        Bench.due("32769 + itself", x.register(1), 2);
    }

    private static void differencesMod65536() {
        Bench.about("3 a becomes a - b (both mod 65536).");
        int[][] cases = {{1, 0, 1}, {1, 1, 0}, {0, 1, 65535}, {0, 2, 65534}, {0, 65535, 1},
            {65535, 65535, 0}, {65534, 65535, 65535}, {65535, 0, 65535}, {32768, 1, 32767},
            {32767, 32768, 65535}, {0, 32768, 32768}, {0, 0, 0}};
        for (int[] c : cases) {
            ProbeBench x = before(0, Bench.op(3, 1, 2, 0), 1, c[0], 2, c[1]);
            x.run(1);
            Bench.due(c[0] + " - " + c[1], x.register(1), c[2]);
            Bench.due("b stays", x.register(2), c[1]);
        }
        ProbeBench x = before(0, Bench.op(3, 1, 1, 0), 1, 65535, 1, 65535);
        x.run(1);
        Bench.due("65535 - itself", x.register(1), 0);
    }

    /** The value of b, n, and the place that they lead to. */
    private static final int[][] PLACES = {{0, 0, 0}, {0, 63, 63}, {63, 0, 63}, {1, 62, 63},
        {1, 63, 0}, {2, 63, 1}, {63, 1, 0}, {64, 0, 0}, {63, 63, 62}, {64, 63, 63}, {127, 1, 0},
        {65535, 0, 63}, {65535, 1, 0}, {65535, 63, 62}, {65472, 0, 0}, {65471, 0, 63},
        {32768, 5, 5}};

    private static void loadsMod64() {
        Bench.about("4 a becomes the word at (b + n) mod 64.");
        for (int[] c : PLACES) {
            ProbeBench x = Bench.halted();
            for (int i = 0; i < 64; i++) {
                x.write(Bench.MEMORY, 0xB000 + i);
            }
            Bench.load(x, 30, Bench.op(4, 1, 2, c[1]));
            Bench.setRegister(x, 2, c[0]);
            Bench.setPc(x, 30);
            x.write(Bench.CONTROL, Bench.RESUME);
            x.run(1);
            Bench.due("from " + c[0] + " + " + c[1], x.register(1), 0xB000 + c[2]);
        }
        ProbeBench x = before(9, Bench.op(4, 1, 1, 4), 1, 5, 1, 5);
        x.run(1);
        Bench.due("its own place, a and b the same", x.register(1), Bench.op(4, 1, 1, 4));
    }

    private static void storesMod64() {
        Bench.about("5 the word at (b + n) mod 64 becomes a.");
        for (int[] c : PLACES) {
            ProbeBench x = before(30, Bench.op(5, 1, 2, c[1]), 1, 65535, 2, c[0]);
            x.run(1);
            for (int i = 0; i < 64; i++) {
                int was = i == 30 ? Bench.op(5, 1, 2, c[1]) : 0;
                Bench.due("word " + i + " behind a store at " + c[0] + " + " + c[1],
                    x.word(i), i == c[2] ? 65535 : was);
            }
        }
        ProbeBench x = before(63, Bench.op(5, 1, 2, 0), 1, Bench.BREAK, 2, 0);
        Bench.due("a store at the next place is what is done next", x.run(50), 1);
        Bench.due("STATUS", x.read(Bench.STATUS), Bench.status(true, 1, 0));
    }

    private static void goes() {
        Bench.about("6 the PC becomes n.");
        for (int pc : ENDS_OF_MEMORY) {
            for (int n : ENDS_OF_MEMORY) {
                ProbeBench x = before(pc, Bench.op(6, 7, 7, n), 7, 1, 7, 1);
                Bench.due("run(1)", x.run(1), 1);
                Bench.due("from " + pc + " to " + n, x.pc(), n);
            }
        }
    }

    private static void goesIfZero() {
        Bench.about("7 if a is 0, the PC becomes n.");
        for (int value : new int[] {0, 1, 64, 256, 32768, 65535}) {
            for (int b : new int[] {0, 1, 65535}) {
                for (int n : ENDS_OF_MEMORY) {
                    ProbeBench x = before(20, Bench.op(7, 1, 2, n), 1, value, 2, b);
                    x.run(1);
                    Bench.due("a being " + value, x.pc(), value == 0 ? n : 21);
                }
            }
        }
    }

    private static void goesIfLess() {
        Bench.about("8 if a is less than b (unsigned), the PC becomes n.");
        for (int b : new int[] {0, 1, 2, 32767, 32768, 32769, 65534, 65535}) {
            for (int a : new int[] {0, b - 1, b, b + 1, 65535}) {
                if (a < 0 || a > 65535) {
                    continue;
                }
                ProbeBench x = before(20, Bench.op(8, 1, 2, 63), 1, a, 2, b);
                x.run(1);
                Bench.due(a + " against " + b, x.pc(), a < b ? 63 : 21);
            }
        }
        ProbeBench x = before(20, Bench.op(8, 1, 1, 63), 1, 9, 1, 9);
        x.run(1);
        Bench.due("a against itself", x.pc(), 21);
    }

    private static void callsMod64() {
        Bench.about("9 the PC becomes b (as it was) mod 64, and a the PC that was next.");
        int[][] targets = {{0, 0}, {1, 1}, {62, 62}, {63, 63}, {64, 0}, {65, 1}, {127, 63},
            {128, 0}, {32768, 0}, {65535, 63}};
        for (int pc : ENDS_OF_MEMORY) {
            for (int[] c : targets) {
                ProbeBench x = before(pc, Bench.op(9, 1, 2, 33), 1, 65535, 2, c[0]);
                Bench.due("run(1)", x.run(1), 1);
                Bench.due("PC by b = " + c[0], x.pc(), c[1]);
                Bench.due("a at " + pc, x.register(1), pc == 63 ? 0 : pc + 1);
                Bench.due("b stays", x.register(2), c[0]);
            }
        }
    }

    private static void callsWithTheSameRegister() {
        Bench.about("9 the PC becomes b (as it was) mod 64, and a the PC that was next.");
        for (int pc : ENDS_OF_MEMORY) {
            ProbeBench x = before(pc, Bench.op(9, 4, 4, 0), 4, 64 + 40, 4, 64 + 40);
            x.run(1);
            Bench.due("PC", x.pc(), 40);
            Bench.due("the register", x.register(4), pc == 63 ? 0 : pc + 1);
        }
    }

    private static void nothingElse() {
        Bench.about("0 nothing. ... 11 .. 15: nothing.");
        for (int operation : new int[] {0, 11, 12, 13, 14, 15}) {
            ProbeBench x = before(10, operation << 12 | 0xFFF, 7, 65535, 6, 65535);
            Bench.due("run(1) of operation " + operation, x.run(1), 1);
            Bench.due("pc()", x.pc(), 11);
            Bench.due("steps()", x.steps(), 1);
            for (int r = 0; r < 8; r++) {
                Bench.due("register(" + r + ")", x.register(r), r < 6 ? 0 : 65535);
            }
            for (int i = 0; i < 64; i++) {
                Bench.due("word(" + i + ")", x.word(i), i == 10 ? operation << 12 | 0xFFF : 0);
            }
        }
    }

    private static void breaks() {
        Bench.about("A BREAK halts with cause 1, the PC staying at it (this is no step");
        for (int pc : ENDS_OF_MEMORY) {
            for (int bits : new int[] {0, 1, 0xFFF}) {
                ProbeBench x = before(pc, Bench.BREAK | bits, 7, 50, 6, 60);
                Bench.due("run(50)", x.run(50), 0);
                Bench.due("STATUS", x.read(Bench.STATUS), Bench.status(true, 1, pc));
                Bench.due("steps()", x.steps(), 0);
                Bench.due("register(7)", x.register(7), 50);
                x.write(Bench.CONTROL, Bench.RESUME);
                Bench.due("it runs", x.read(Bench.STATUS), Bench.status(false, 1, pc));
                Bench.due("it halts there again", x.run(50), 0);
                Bench.due("STATUS", x.read(Bench.STATUS), Bench.status(true, 1, pc));
            }
            // The operations beside it don't halt.
            Bench.due("operation 9", before(pc, Bench.op(9, 1, 2, 0), 1, 1, 2, 30).run(1), 1);
            Bench.due("operation 11", before(pc, Bench.op(11, 0, 0, 0), 1, 1, 2, 30).run(1), 1);
        }
    }

    private static void instructionTraps() {
        Bench.about("the step before which a trap of kind 1 has the PC as its address");
        for (int t = Bench.TRAP_0; t <= Bench.TRAP_1; t++) {
            for (int at = 0; at < 64; at++) {
                ProbeBench x = startingAt(at + 62 & 63);
                x.write(t, Bench.trap(1, at));
                Bench.due("the two before " + at, x.run(50), 2);
                Bench.due("STATUS", x.read(Bench.STATUS), Bench.status(true, 2, at));
                Bench.due("steps()", x.steps(), 2);
                Bench.due("it stays halted", x.run(50), 0);
                x = startingAt(at + 1 & 63);
                x.write(t, Bench.trap(1, at));
                x.run(50);
                Bench.due("the 63 behind " + at, x.run(50), 13);
                Bench.due("pc()", x.pc(), at);
            }
        }
    }

    private static void storeTraps() {
        Bench.about("operation 5 would store at the address of one of kind 2, is not done");
        for (int t = Bench.TRAP_0; t <= Bench.TRAP_1; t++) {
            for (int at : ENDS_OF_MEMORY) {
                for (int beside = -1; beside <= 1; beside++) {
                    int place = at + beside & 63;
                    // By way of (b + n) mod 64.
                    ProbeBench x = before(30, Bench.op(5, 1, 7, 63), 1, 77, 7, place + 65);
                    x.write(t, Bench.trap(2, at));
                    Bench.due("a store at " + place + ", the trap being at " + at,
                        x.run(1), beside == 0 ? 0 : 1);
                    Bench.due("the word", x.word(place), beside == 0 ? 0 : 77);
                    Bench.due("STATUS", x.read(Bench.STATUS), beside == 0
                        ? Bench.status(true, 2, 30) : Bench.status(false, 3, 31));
                    Bench.due("steps()", x.steps(), beside == 0 ? 0 : 1);
                }
            }
        }
    }

    private static void storeTrapsByEachRegister() {
        Bench.about("operation 5 would store at the address of one of kind 2, is not done");
        for (int b = 0; b < 8; b++) {
            for (int wrong = 0; wrong < 8; wrong++) {
                ProbeBench x = Bench.halted();
                for (int r = 0; r < 8; r++) {
                    Bench.setRegister(x, r, 40 + r);
                }
                Bench.load(x, 0, Bench.op(5, 0, b, 10));
                x.write(Bench.TRAP_0, Bench.trap(2, 50 + wrong));
                x.write(Bench.CONTROL, Bench.RESUME);
                Bench.due("b = " + b + ", the trap being for " + wrong,
                    x.run(1), b == wrong ? 0 : 1);
            }
        }
    }

    private static void storesAlone() {
        Bench.about("in which operation 5 would store at the address of one of kind 2");
        for (int operation = 0; operation < 16; operation++) {
            if (operation == 10) {
                continue;
            }
            ProbeBench x = before(30, Bench.op(operation, 1, 2, 44), 1, 0, 2, 0);
            x.write(Bench.TRAP_0, Bench.trap(2, 44));
            Bench.due("operation " + operation, x.run(1), operation == 5 ? 0 : 1);
        }
    }

    private static void kindsAreApart() {
        Bench.about("a KIND (0 none, 1 at an instruction, 2 at a store)");
        for (int kind = 0; kind < 4; kind++) {
            ProbeBench x = startingAt(29);
            Bench.load(x, 30, Bench.op(5, 0, 0, 44));
            x.write(Bench.TRAP_0, Bench.trap(kind, 30));
            Bench.due("kind " + kind + " at the instruction", x.run(5), kind == 1 ? 1 : 5);
            x = startingAt(29);
            Bench.load(x, 30, Bench.op(5, 0, 0, 44));
            x.write(Bench.TRAP_1, Bench.trap(kind, 44));
            Bench.due("kind " + kind + " at the store's place", x.run(5), kind == 2 ? 1 : 5);
            x = startingAt(29);
            Bench.load(x, 30, Bench.op(5, 0, 0, 30));
            x.write(Bench.TRAP_1, Bench.trap(kind, 30));
            Bench.due("kind " + kind + " at both", x.run(5), kind == 1 || kind == 2 ? 1 : 5);
        }
    }

    private static void bothTraps() {
        Bench.about("TRAPS 0 and 1 each have a KIND");
        int[][] pairs = {{5, 6}, {6, 5}, {5, 5}, {0, 63}, {63, 0}};
        for (int[] p : pairs) {
            ProbeBench x = startingAt(1);
            x.write(Bench.TRAP_0, Bench.trap(1, p[0]));
            x.write(Bench.TRAP_1, Bench.trap(1, p[1]));
            int first = p[0] == 0 || p[1] == 0 ? 63 : 5;
            x.run(50);
            x.run(50);
            Bench.due("the first to come of " + p[0] + " and " + p[1], x.pc(), first);
            x.write(Bench.CONTROL, Bench.RESUME);
            x.run(1);
            x.run(50);
            x.run(50);
            Bench.due("the other one", x.pc(), p[0] == p[1] ? 5 : first + 1 & 63);
        }
        ProbeBench x = startingAt(1);
        Bench.load(x, 1, Bench.op(5, 0, 0, 50));
        x.write(Bench.TRAP_0, Bench.trap(1, 1));
        x.write(Bench.TRAP_1, Bench.trap(2, 50));
        Bench.due("kind 2 when kind 1 does not count", x.run(5), 0);
        x.write(Bench.TRAP_1, 0);
        x.write(Bench.CONTROL, Bench.RESUME);
        Bench.due("neither", x.run(5), 5);
    }

    private static void trapBeforeBreak() {
        Bench.about("A trap comes before a BREAK.");
        for (int t = Bench.TRAP_0; t <= Bench.TRAP_1; t++) {
            for (int at : new int[] {1, 62, 63}) {
                ProbeBench x = startingAt(at - 1);
                Bench.load(x, at, Bench.BREAK);
                x.write(t, Bench.trap(1, at));
                Bench.due("run(50)", x.run(50), 1);
                Bench.due("the trap", x.read(Bench.STATUS), Bench.status(true, 2, at));
                x.write(Bench.CONTROL, Bench.RESUME);
                Bench.due("run(50)", x.run(50), 0);
                Bench.due("then the BREAK", x.read(Bench.STATUS), Bench.status(true, 1, at));
                x.write(t, Bench.trap(2, at));
                x.write(Bench.CONTROL, Bench.RESUME);
                x.run(1);
                Bench.due("no store", x.read(Bench.STATUS), Bench.status(true, 1, at));
            }
        }
    }

    private static void causes() {
        Bench.about("Causes: 0 none yet, 1 BREAK, 2 a trap, 3 it was asked to, 4 one step");
        ProbeBench x = Bench.with(0, Bench.BREAK);
        Bench.due("none yet", x.read(Bench.STATUS), Bench.status(false, 0, 0));
        x.run(1);
        Bench.due("none yet behind a step", x.read(Bench.STATUS), Bench.status(false, 0, 1));
        x.run(1);
        Bench.due("BREAK", x.read(Bench.STATUS), Bench.status(true, 1, 1));
        Bench.setPc(x, 2);
        x.write(Bench.TRAP_0, Bench.trap(1, 3));
        x.write(Bench.CONTROL, Bench.RESUME);
        x.run(9);
        Bench.due("a trap", x.read(Bench.STATUS), Bench.status(true, 2, 3));
        x.write(Bench.CONTROL, Bench.RESUME);
        x.write(Bench.CONTROL, Bench.HALT);
        Bench.due("asked to", x.read(Bench.STATUS), Bench.status(true, 3, 3));
        x.write(Bench.CONTROL, Bench.STEP_ONCE);
        Bench.due("one step", x.read(Bench.STATUS), Bench.status(true, 4, 4));
        x.write(Bench.CONTROL, Bench.RESUME);
        Bench.due("the last one while it runs", x.read(Bench.STATUS), Bench.status(false, 4, 4));
    }
}
