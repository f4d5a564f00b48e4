import java.util.ArrayList;
import java.util.Collections;
import java.util.List;
import java.util.Map;
import java.util.Random;

/**
 * Long runs of calls against a second, slow writing of the document: rows as lists of bits,
 * states as names. It finds what the single tests don't combine.
 */
public final class ModelTest {
    private static final int OBJECTS = 5000;
    /** With the 64 calls at the end and those of a round that has begun, below 512. */
    private static final int CALLS = 400;

    public static void main(String[] args) {
        for (int seed = 0; seed < OBJECTS; seed++) {
            new Duel(seed).fight();
        }
        Bench.end();
    }

    /** One object and one model that get the same calls. */
    private static final class Duel {
        private final int seed;
        private final Random random;
        private final ProbeBench x = new ProbeBench();
        private final Model m = new Model();
        private int calls = 0;

        Duel(int seed) {
            this.seed = seed;
            this.random = new Random(seed);
        }

        void fight() {
            while (calls < CALLS) {
                round();
            }
            for (int i = 0; i < 64; i++) {
                due("word(" + i + ")", x.word(i), m.words[i]);
            }
        }

        private void due(String call, int got, int want) {
            calls++;
            Bench.due("seed " + seed + ": " + call, got, want);
        }

        private void round() {
            switch (random.nextInt(9)) {
                case 0 -> ticks(random.nextInt(27) - 1, random.nextInt(), random.nextInt());
                case 1 -> instructionScan();
                case 2, 3 -> dataScan();
                case 4 -> run(random.nextInt(10) == 0 ? random.nextInt(60) - 3 : random.nextInt(6));
                case 5 -> read(random.nextInt(18) - 1);
                case 6 -> write(0, random.nextInt(8));
                case 7 -> write(random.nextInt(18) - 1, value());
                default -> write(10, value());
            }
            due("state()", x.state(), Model.STATES.indexOf(m.state));
            due("instruction()", x.instruction(), m.instruction);
            due("pc()", x.pc(), m.pc);
            due("steps()", x.steps(), m.steps);
            int r = random.nextInt(8);
            due("register(" + r + ")", x.register(r), m.registers[r]);
        }

        private int value() {
            return switch (random.nextInt(5)) {
                case 0 -> random.nextInt();
                case 1 -> random.nextInt(64);
                case 2 -> 64 + random.nextInt(128);
                case 3 -> random.nextInt(6) << 8 | random.nextInt(8);
                default -> random.nextInt(11) << 12 | random.nextInt(4096);
            };
        }

        private void instructionScan() {
            goTo("SHIFT-I");
            ticks(4, 8, 1 + random.nextInt(random.nextInt(4) == 0 ? 15 : 3));
            ticks(2, 1, 0);
        }

        private void dataScan() {
            goTo("SHIFT-D");
            int number = random.nextInt(16);
            int bits = Bench.access(random.nextInt(4), value() & 0xFFFF, number);
            int length = random.nextInt(4) == 0 ? 1 + random.nextInt(22) : m.row.size();
            ticks(length, 1 << length - 1, bits);
            ticks(2, 1 | random.nextInt(2) << 1, 0);
            if (random.nextInt(3) == 0) {
                ticks(4, 0b1101 >> random.nextInt(2), 0);
                ticks(1, 0, 0);
            }
        }

        /** By way of IDLE, one tick at a time. */
        private void goTo(String state) {
            for (int i = 0; i < 8 && !m.state.equals("IDLE"); i++) {
                boolean leaves = m.state.startsWith("SHIFT") || m.state.startsWith("EXIT")
                    || m.state.startsWith("CAPTURE") || m.state.startsWith("PAUSE")
                    || m.state.startsWith("SELECT");
                ticks(1, leaves ? 1 : 0, random.nextInt());
            }
            ticks(state.equals("SHIFT-I") ? 4 : 3, state.equals("SHIFT-I") ? 3 : 1, 0);
        }

        private void ticks(int n, int modes, int ins) {
            due("tick(" + n + ", " + modes + ", " + ins + ")",
                x.tick(n, modes, ins), m.ticks(n, modes, ins));
        }

        private void run(int n) {
            due("run(" + n + ")", x.run(n), m.run(n));
        }

        private void read(int r) {
            due("read(" + r + ")", x.read(r), m.read(r));
        }

        private void write(int r, int v) {
            due("write(" + r + ", " + v + ")", x.write(r, v) ? 1 : 0, m.write(r, v) ? 1 : 0);
        }
    }

    /** The document, written down once more. */
    private static final class Model {
        static final List<String> STATES = List.of("RESET", "IDLE", "SELECT-D", "CAPTURE-D",
            "SHIFT-D", "EXIT1-D", "PAUSE-D", "EXIT2-D", "UPDATE-D", "SELECT-I", "CAPTURE-I",
            "SHIFT-I", "EXIT1-I", "PAUSE-I", "EXIT2-I", "UPDATE-I");
        static final Map<String, String> AFTER_0 = Map.of("RESET", "IDLE", "IDLE", "IDLE",
            "SELECT", "CAPTURE", "CAPTURE", "SHIFT", "SHIFT", "SHIFT", "EXIT1", "PAUSE",
            "PAUSE", "PAUSE", "EXIT2", "SHIFT", "UPDATE", "IDLE");
        static final Map<String, String> AFTER_1 = Map.of("RESET", "RESET", "IDLE", "SELECT-D",
            "CAPTURE", "EXIT1", "SHIFT", "EXIT1", "EXIT1", "UPDATE",
            "PAUSE", "EXIT2", "EXIT2", "UPDATE", "UPDATE", "SELECT-D");

        String state = "RESET";
        int instruction = 1;
        List<Integer> row = new ArrayList<>();
        boolean busy = false;
        int value = 0;
        int number = 0;
        int ticksSinceBegin = 1000;

        final int[] registers = new int[8];
        final int[] words = new int[64];
        int pc = 0;
        boolean halted = false;
        int cause = 0;
        int steps = 0;
        boolean justResumed = false;
        final int[] kind = new int[2];
        final int[] place = new int[2];

        boolean stepping = false;
        int data = 0;
        int error = 0;
        final int[] program = new int[4];
        int address = 0;

        int ticks(int n, int modes, int ins) {
            if (n < 1 || n > 24) {
                return -1;
            }
            int out = 0;
            for (int i = 0; i < n; i++) {
                out += tick(bit(modes, i), bit(ins, i)) * (1 << i);
            }
            return out;
        }

        private static int bit(int bits, int i) {
            return bits >>> i & 1;
        }

        private int tick(int mode, int in) {
            int out = 0;
            if (state.startsWith("SHIFT")) {
                out = row.remove(0);
                row.add(in);
            } else if (state.equals("RESET")) {
                instruction = 1;
            } else if (state.equals("CAPTURE-I")) {
                row = new ArrayList<>(List.of(1, 0, 1, 0));
            } else if (state.equals("UPDATE-I")) {
                instruction = number(row, 0, 4);
            } else if (state.equals("CAPTURE-D")) {
                captureD();
            } else if (state.equals("UPDATE-D")) {
                updateD();
            }
            ticksSinceBegin++;
            state = next(mode);
            return out;
        }

        private String next(int mode) {
            if (mode == 1 && state.equals("SELECT-D")) {
                return "SELECT-I";
            }
            if (mode == 1 && state.equals("SELECT-I")) {
                return "RESET";
            }
            int dash = state.indexOf('-');
            String stem = dash < 0 ? state : state.substring(0, dash);
            String branch = dash < 0 ? "" : state.substring(dash);
            String to = (mode == 0 ? AFTER_0 : AFTER_1).get(stem);
            return STATES.contains(to) ? to : to + branch;
        }

        private static int number(List<Integer> bits, int from, int to) {
            int n = 0;
            for (int i = to - 1; i >= from; i--) {
                n = 2 * n + bits.get(i);
            }
            return n;
        }

        private void captureD() {
            row = new ArrayList<>();
            if (instruction == 1) {
                addBits(23130, 16);
            } else if (instruction == 2) {
                row.addAll(busy ? List.of(1, 1, 0, 0) : Collections.nCopies(4, 0));
            } else if (instruction == 3) {
                addBits(busy ? 3 : 0, 2);
                addBits(value, 16);
                addBits(number, 4);
            } else {
                row.add(0);
            }
        }

        private void addBits(int n, int length) {
            for (int i = 0; i < length; i++) {
                row.add(bit(n, i));
            }
        }

        private void updateD() {
            if (instruction == 2 && row.get(0) == 1) {
                busy = false;
            }
            if (instruction == 3 && !busy) {
                int operation = number(row, 0, 2);
                if (ticksSinceBegin < 5) {
                    busy = true;
                } else if (operation == 1) {
                    number = number(row, 18, 22);
                    value = read(number);
                    ticksSinceBegin = 0;
                } else if (operation == 2) {
                    number = number(row, 18, 22);
                    write(number, number(row, 2, 18));
                    ticksSinceBegin = 0;
                }
            }
        }

        int run(int n) {
            if (n < 1 || n > 50) {
                return -1;
            }
            int before = steps;
            for (int i = 0; i < n; i++) {
                if (!halted) {
                    step();
                }
            }
            return steps - before;
        }

        private void step() {
            int w = words[pc];
            int operation = w / 4096;
            int a = w / 512 % 8;
            int b = w / 64 % 8;
            int n = w % 64;
            boolean resumed = justResumed;
            justResumed = false;
            int target = (registers[b] + n) % 64;
            if (!resumed && hasTrap(1, pc) || operation == 5 && hasTrap(2, target)) {
                halted = true;
                cause = 2;
            } else if (operation == 10) {
                halted = true;
                cause = 1;
            } else {
                int next = (pc + 1) % 64;
                int from = registers[b];
                boolean isZero = registers[a] == 0;
                boolean isLess = registers[a] < registers[b];
                plain(operation, a, b, n);
                pc = switch (operation) {
                    case 6 -> n;
                    case 7 -> isZero ? n : next;
                    case 8 -> isLess ? n : next;
                    case 9 -> from % 64;
                    default -> next;
                };
                if (operation == 9) {
                    registers[a] = next;
                }
                steps++;
            }
        }

        private boolean hasTrap(int k, int at) {
            return kind[0] == k && place[0] == at || kind[1] == k && place[1] == at;
        }

        private void plain(int operation, int a, int b, int n) {
            int target = (registers[b] + n) % 64;
            if (operation == 1) {
                registers[a] = n;
            } else if (operation == 2) {
                registers[a] = (registers[a] + registers[b]) % 65536;
            } else if (operation == 3) {
                registers[a] = (registers[a] + 65536 - registers[b]) % 65536;
            } else if (operation == 4) {
                registers[a] = words[target];
            } else if (operation == 5) {
                words[target] = registers[a];
            }
        }

        int read(int r) {
            if (r < 0 || r > 15) {
                return -1;
            }
            return switch (r) {
                case 0 -> stepping ? 4 : 0;
                case 1 -> (halted ? 1 : 0) + 2 * cause + 16 * pc;
                case 2 -> data;
                case 4 -> error;
                case 5, 6, 7, 8 -> program[r - 5];
                case 9 -> address;
                case 10 -> {
                    int w = words[address];
                    address = (address + 1) % 64;
                    yield w;
                }
                case 11, 12 -> place[r - 11] + 64 * kind[r - 11];
                case 13 -> 23130;
                default -> 0;
            };
        }

        boolean write(int r, int given) {
            if (r < 0 || r > 15) {
                return false;
            }
            int v = given & 65535;
            switch (r) {
                case 0 -> control(v);
                case 2 -> data = v;
                case 3 -> command(v / 256 % 8, v % 8);
                case 4 -> error = v % 2 == 1 ? 0 : error;
                case 5, 6, 7, 8 -> program[r - 5] = v;
                case 9 -> address = v % 64;
                case 10 -> {
                    words[address] = v;
                    address = (address + 1) % 64;
                }
                case 11, 12 -> {
                    place[r - 11] = v % 64;
                    kind[r - 11] = v / 64 % 4 % 3;
                }
                default -> { }
            }
            return true;
        }

        private void control(int v) {
            stepping = bit(v, 2) == 1;
            if (bit(v, 0) == 1 && !halted) {
                halted = true;
                cause = 3;
            } else if (bit(v, 1) == 1 && halted) {
                halted = false;
                justResumed = true;
                if (stepping && run(1) == 1) {
                    halted = true;
                    cause = 4;
                }
            }
        }

        private void command(int c, int r) {
            if (error != 0) {
                return;
            }
            if (!halted) {
                error = 1;
                return;
            }
            switch (c) {
                case 0 -> data = registers[r];
                case 1 -> registers[r] = data;
                case 2 -> data = pc;
                case 3 -> pc = data % 64;
                case 4 -> program();
                default -> error = 2;
            }
        }

        private void program() {
            for (int w : program) {
                int operation = w / 4096;
                if (operation == 10) {
                    return;
                }
                if (operation > 5 && operation < 10) {
                    error = 3;
                    return;
                }
                plain(operation, w / 512 % 8, w / 64 % 8, w % 64);
            }
        }
    }
}
