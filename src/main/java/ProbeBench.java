/**
 * A small processor that is examined from outside through one pin in and one out.
 *
 * <p>The Processor does the steps, the Probe is the module with the sixteen registers that
 * commands it, and the Pins are the machine of sixteen states that reaches the Probe.
 */
public final class ProbeBench {
    private static final int MOST_TICKS = 24;
    private static final int MOST_STEPS = 50;
    private static final int WORD_MASK = 0xFFFF;
    private static final int IDENTITY_CODE = 23130;

    private final Processor processor;
    private final Probe probe;
    private final Pins pins;

    public ProbeBench() {
        processor = new Processor();
        probe = new Probe(processor);
        pins = new Pins(probe);
    }

    public int tick(int n, int modes, int ins) {
        if (n < 1 || n > MOST_TICKS) {
            return -1;
        }
        int outputs = 0;
        for (int i = 0; i < n; i++) {
            outputs |= pins.clock(modes >> i & 1, ins >> i & 1) << i;
        }
        return outputs;
    }

    public int run(int n) {
        if (n < 1 || n > MOST_STEPS) {
            return -1;
        }
        int done = 0;
        while (done < n && processor.running && processor.advance()) {
            done++;
        }
        return done;
    }

    public int read(int r) {
        return Probe.hasRegister(r) ? probe.fetch(r) : -1;
    }

    public boolean write(int r, int v) {
        if (!Probe.hasRegister(r)) {
            return false;
        }
        probe.put(r, v & WORD_MASK);
        return true;
    }

    public int state() {
        return pins.current;
    }

    public int instruction() {
        return pins.selected;
    }

    public int register(int r) {
        return r >= 0 && r < Processor.REGISTERS ? processor.registers[r] : -1;
    }

    public int word(int address) {
        return address >= 0 && address < Processor.WORDS ? processor.words[address] : -1;
    }

    public int pc() {
        return processor.counter;
    }

    public int steps() {
        return processor.stepsDone;
    }

    /** The processor with its traps. */
    private static final class Processor {
        static final int REGISTERS = 8;
        static final int WORDS = 64;
        static final int PLACE_MASK = WORDS - 1;

        static final int SET = 1;
        static final int ADD = 2;
        static final int SUBTRACT = 3;
        static final int LOAD = 4;
        static final int STORE = 5;
        static final int GO = 6;
        static final int GO_IF_ZERO = 7;
        static final int GO_IF_LESS = 8;
        static final int CALL = 9;
        static final int BREAK = 10;

        static final int CAUSE_BREAK = 1;
        static final int CAUSE_TRAP = 2;
        static final int CAUSE_ASKED = 3;
        static final int CAUSE_STEPPED = 4;

        // A trap is held as the module shows it, address + 64 * kind, so that one comparison
        // looks at kind and address together.
        static final int TRAPS = 2;
        static final int TRAP_AT_INSTRUCTION = 64;
        static final int TRAP_AT_STORE = 2 * 64;
        static final int TRAP_KIND_MASK = 3 * 64;

        final int[] registers = new int[REGISTERS];
        final int[] words = new int[WORDS];
        final int[] traps = new int[TRAPS];
        int counter = 0;
        boolean running = true;
        int cause = 0;
        int stepsDone = 0;
        // Set by resuming: without it a trap at the PC would stop the processor there for ever.
        boolean passesTrap = false;

        void halt(int why) {
            running = false;
            cause = why;
        }

        void resume() {
            running = true;
            passesTrap = true;
        }

        void setTrap(int i, int v) {
            boolean noKind = (v & TRAP_KIND_MASK) == TRAP_KIND_MASK;
            traps[i] = v & (noKind ? PLACE_MASK : TRAP_KIND_MASK | PLACE_MASK);
        }

        int status() {
            return (running ? 0 : 1) | cause << 1 | counter << 4;
        }

        /** Tries one step; answers whether it was done. If it was not, the processor is halted. */
        boolean advance() {
            int w = words[counter];
            boolean trapped = isTrapped(w);
            passesTrap = false;
            if (trapped) {
                halt(CAUSE_TRAP);
                return false;
            }
            if (w >> 12 == BREAK) {
                halt(CAUSE_BREAK);
                return false;
            }
            counter = counter + 1 & PLACE_MASK;
            if (isJump(w)) {
                jump(w);
            } else {
                perform(w);
            }
            stepsDone++;
            return true;
        }

        private boolean isTrapped(int w) {
            int place = registers[w >> 6 & 7] + w & PLACE_MASK;
            boolean stores = w >> 12 == STORE;
            for (int i = 0; i < TRAPS; i++) {
                if (!passesTrap && traps[i] == TRAP_AT_INSTRUCTION + counter) {
                    return true;
                }
                if (stores && traps[i] == TRAP_AT_STORE + place) {
                    return true;
                }
            }
            return false;
        }

        static boolean isJump(int w) {
            return w >> 12 >= GO && w >> 12 <= CALL;
        }

        /** What an instruction does that leaves the PC alone; the PROGRAM uses it as well. */
        void perform(int w) {
            int a = w >> 9 & 7;
            int b = w >> 6 & 7;
            int n = w & 63;
            int place = registers[b] + n & PLACE_MASK;
            switch (w >> 12) {
                case SET:
                    registers[a] = n;
                    break;
                case ADD:
                    registers[a] = registers[a] + registers[b] & WORD_MASK;
                    break;
                case SUBTRACT:
                    registers[a] = registers[a] - registers[b] & WORD_MASK;
                    break;
                case LOAD:
                    registers[a] = words[place];
                    break;
                case STORE:
                    words[place] = registers[a];
                    break;
                default:
                    break;
            }
        }

        private void jump(int w) {
            int a = w >> 9 & 7;
            int b = w >> 6 & 7;
            int n = w & 63;
            int next = counter;
            switch (w >> 12) {
                case GO:
                    counter = n;
                    break;
                case GO_IF_ZERO:
                    counter = registers[a] == 0 ? n : next;
                    break;
                case GO_IF_LESS:
                    counter = registers[a] < registers[b] ? n : next;
                    break;
                case CALL:
                    // a and b may be the same register: its old value is needed first.
                    counter = registers[b] & PLACE_MASK;
                    registers[a] = next;
                    break;
                default:
                    break;
            }
        }
    }

    /** The module: sixteen registers through which the processor is examined. */
    private static final class Probe {
        static final int REGISTERS = 16;
        static final int CONTROL = 0;
        static final int STATUS = 1;
        static final int DATA = 2;
        static final int COMMAND = 3;
        static final int ERROR = 4;
        static final int PROGRAM_FIRST = 5;
        static final int PROGRAM_LAST = 8;
        static final int ADDRESS = 9;
        static final int MEMORY = 10;
        static final int TRAP_FIRST = 11;
        static final int TRAP_LAST = 12;
        static final int IDENTITY = 13;

        static final int HALT_BIT = 1;
        static final int RESUME_BIT = 2;
        static final int STEPPING_BIT = 4;

        static final int ERROR_RUNS = 1;
        static final int ERROR_COMMAND = 2;
        static final int ERROR_PROGRAM = 3;

        final Processor processor;
        final int[] program = new int[PROGRAM_LAST - PROGRAM_FIRST + 1];
        boolean stepping = false;
        int data = 0;
        int error = 0;
        int address = 0;

        Probe(Processor examined) {
            processor = examined;
        }

        static boolean hasRegister(int r) {
            return r >= 0 && r < REGISTERS;
        }

        int fetch(int r) {
            if (r >= PROGRAM_FIRST && r <= PROGRAM_LAST) {
                return program[r - PROGRAM_FIRST];
            }
            if (r >= TRAP_FIRST && r <= TRAP_LAST) {
                return processor.traps[r - TRAP_FIRST];
            }
            switch (r) {
                case CONTROL:
                    return stepping ? STEPPING_BIT : 0;
                case STATUS:
                    return processor.status();
                case DATA:
                    return data;
                case ERROR:
                    return error;
                case ADDRESS:
                    return address;
                case MEMORY:
                    return processor.words[passAddress()];
                case IDENTITY:
                    return IDENTITY_CODE;
                default:
                    return 0;
            }
        }

        void put(int r, int v) {
            if (r >= PROGRAM_FIRST && r <= PROGRAM_LAST) {
                program[r - PROGRAM_FIRST] = v;
                return;
            }
            if (r >= TRAP_FIRST && r <= TRAP_LAST) {
                processor.setTrap(r - TRAP_FIRST, v);
                return;
            }
            switch (r) {
                case CONTROL:
                    control(v);
                    break;
                case DATA:
                    data = v;
                    break;
                case COMMAND:
                    command(v);
                    break;
                case ERROR:
                    error = (v & 1) == 1 ? 0 : error;
                    break;
                case ADDRESS:
                    address = v & Processor.PLACE_MASK;
                    break;
                case MEMORY:
                    processor.words[passAddress()] = v;
                    break;
                default:
                    break;
            }
        }

        /** The ADDRESS as it is, which then grows by 1. */
        private int passAddress() {
            int at = address;
            address = at + 1 & Processor.PLACE_MASK;
            return at;
        }

        private void control(int v) {
            stepping = (v & STEPPING_BIT) != 0;
            if ((v & HALT_BIT) != 0 && processor.running) {
                processor.halt(Processor.CAUSE_ASKED);
            } else if ((v & RESUME_BIT) != 0 && !processor.running) {
                processor.resume();
                if (stepping && processor.advance()) {
                    processor.halt(Processor.CAUSE_STEPPED);
                }
            }
        }

        private void command(int v) {
            if (error != 0) {
                return;
            }
            if (processor.running) {
                error = ERROR_RUNS;
                return;
            }
            switch (v >> 8 & 7) {
                case 0:
                    data = processor.registers[v & 7];
                    break;
                case 1:
                    processor.registers[v & 7] = data;
                    break;
                case 2:
                    data = processor.counter;
                    break;
                case 3:
                    processor.counter = data & Processor.PLACE_MASK;
                    break;
                case 4:
                    doProgram();
                    break;
                default:
                    error = ERROR_COMMAND;
                    break;
            }
        }

        private void doProgram() {
            for (int i = 0; i < program.length; i++) {
                int w = program[i];
                if (w >> 12 == Processor.BREAK) {
                    return;
                }
                if (Processor.isJump(w)) {
                    error = ERROR_PROGRAM;
                    return;
                }
                processor.perform(w);
            }
        }
    }

    /** The machine of sixteen states behind the two pins. */
    private static final class Pins {
        static final int RESET = 0;
        static final int CAPTURE_D = 3;
        static final int SHIFT_D = 4;
        static final int UPDATE_D = 8;
        static final int CAPTURE_I = 10;
        static final int SHIFT_I = 11;
        static final int UPDATE_I = 15;
        private static final int[] NEXT_BY_MODE_0 =
            {1, 1, 3, 4, 4, 6, 6, 4, 1, 10, 11, 11, 13, 13, 11, 1};
        private static final int[] NEXT_BY_MODE_1 =
            {0, 2, 9, 5, 5, 8, 7, 8, 2, 0, 12, 12, 15, 14, 15, 2};

        static final int SELECT_IDENTITY = 1;
        static final int SELECT_BUSY = 2;
        static final int SELECT_ACCESS = 3;

        static final int READ_OPERATION = 1;
        static final int WRITE_OPERATION = 2;
        static final int BUSY_RESULT = 3;
        static final int TICKS_NEEDED_BETWEEN = 4;

        final Probe probe;
        int current = RESET;
        int selected = SELECT_IDENTITY;
        int row = 0;
        int rowLength = 1;
        boolean busy = false;
        int valueRead = 0;
        int numberBegun = 0;
        boolean hasBegun = false;
        int ticksDone = 0;
        int ticksAtBegin = 0;

        Pins(Probe reached) {
            probe = reached;
        }

        /** One tick; answers its output. */
        int clock(int mode, int in) {
            int output = 0;
            switch (current) {
                case RESET:
                    selected = SELECT_IDENTITY;
                    break;
                case CAPTURE_I:
                    setRow(4, 5);
                    break;
                case SHIFT_I:
                case SHIFT_D:
                    output = row & 1;
                    row = row >> 1 | in << rowLength - 1;
                    break;
                case UPDATE_I:
                    selected = row;
                    break;
                case CAPTURE_D:
                    captureData();
                    break;
                case UPDATE_D:
                    updateData();
                    break;
                default:
                    break;
            }
            current = mode == 0 ? NEXT_BY_MODE_0[current] : NEXT_BY_MODE_1[current];
            ticksDone++;
            return output;
        }

        private void setRow(int length, int bits) {
            rowLength = length;
            row = bits;
        }

        private void captureData() {
            int result = busy ? BUSY_RESULT : 0;
            switch (selected) {
                case SELECT_IDENTITY:
                    setRow(16, IDENTITY_CODE);
                    break;
                case SELECT_BUSY:
                    setRow(4, result);
                    break;
                case SELECT_ACCESS:
                    setRow(22, result | valueRead << 2 | numberBegun << 18);
                    break;
                default:
                    setRow(1, 0);
                    break;
            }
        }

        private void updateData() {
            if (selected == SELECT_BUSY && (row & 1) == 1) {
                busy = false;
            }
            if (selected != SELECT_ACCESS || busy) {
                return;
            }
            if (comesTooSoon()) {
                busy = true;
                return;
            }
            int operation = row & 3;
            if (operation == READ_OPERATION) {
                noteBegin();
                valueRead = probe.fetch(numberBegun);
            } else if (operation == WRITE_OPERATION) {
                noteBegin();
                probe.put(numberBegun, row >> 2 & WORD_MASK);
            }
        }

        private boolean comesTooSoon() {
            int between = ticksDone - ticksAtBegin - 1;
            return hasBegun && between < TICKS_NEEDED_BETWEEN;
        }

        private void noteBegin() {
            hasBegun = true;
            ticksAtBegin = ticksDone;
            numberBegun = row >> 18 & 15;
        }
    }
}
