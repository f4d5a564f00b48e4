/** What the tests share: counting wrong answers, making instructions, working the pins. */
final class Bench {
    static final int CONTROL = 0;
    static final int STATUS = 1;
    static final int DATA = 2;
    static final int COMMAND = 3;
    static final int ERROR = 4;
    static final int PROGRAM = 5;
    static final int ADDRESS = 9;
    static final int MEMORY = 10;
    static final int TRAP_0 = 11;
    static final int TRAP_1 = 12;
    static final int IDENTITY = 13;

    static final int HALT = 1;
    static final int RESUME = 2;
    static final int STEP_ONCE = 6;
    static final int BREAK = 10 << 12;

    /** Modes that lead from RESET to each state. */
    static final String[] WAY = {
        "1", "0", "01", "010", "0100", "0101", "01010", "010101",
        "01011", "011", "0110", "01100", "01101", "011010", "0110101", "011011"};

    private static int answers = 0;
    private static int wrong = 0;
    private static String sentence = "";

    private Bench() {
    }

    /** The words of the document that the answers from here on are about. */
    static void about(String words) {
        sentence = "\"" + words + "\": ";
    }

    static void due(String what, long got, long want) {
        answers++;
        if (got != want) {
            wrong++;
            System.out.println(sentence + what + " answered " + got + ", due is " + want);
        }
    }

    static void due(String what, boolean got, boolean want) {
        due(what, got ? 1 : 0, want ? 1 : 0);
    }

    static void end() {
        System.out.println(wrong == 0
            ? "all " + answers + " answers are as due"
            : wrong + " of " + answers + " answers are not as due");
        if (wrong != 0 || answers == 0) {
            System.exit(1);
        }
    }

    static void endIfWrong() {
        if (wrong != 0) {
            end();
        }
    }

    static int op(int operation, int a, int b, int n) {
        return operation << 12 | a << 9 | b << 6 | n;
    }

    static void load(ProbeBench x, int address, int... words) {
        x.write(ADDRESS, address);
        for (int w : words) {
            x.write(MEMORY, w);
        }
    }

    /** A new object whose memory begins with these words; it runs, with the PC at 0. */
    static ProbeBench with(int... words) {
        ProbeBench x = new ProbeBench();
        load(x, 0, words);
        return x;
    }

    /** Sets a register of the halted processor. */
    static void setRegister(ProbeBench x, int r, int v) {
        x.write(DATA, v);
        x.write(COMMAND, 0x100 | r);
    }

    /** Sets the PC of the halted processor. */
    static void setPc(ProbeBench x, int v) {
        x.write(DATA, v);
        x.write(COMMAND, 0x300);
    }

    static int status(boolean halted, int cause, int pc) {
        return (halted ? 1 : 0) + 2 * cause + 16 * pc;
    }

    static int trap(int kind, int address) {
        return 64 * kind + address;
    }

    /** Ticks with the modes written as a text, IN being 0. */
    static int modes(ProbeBench x, String modes) {
        return x.tick(modes.length(), bits(modes), 0);
    }

    private static int bits(String text) {
        int bits = 0;
        for (int i = 0; i < text.length(); i++) {
            bits |= (text.charAt(i) - '0') << i;
        }
        return bits;
    }

    /** From RESET or IDLE to IDLE, loading INSTRUCTION; answers what was shifted out. */
    static int scanInstruction(ProbeBench x, int instruction) {
        modes(x, "01100");
        int out = shift(x, 4, instruction);
        modes(x, "10");
        return out;
    }

    /** From IDLE to IDLE, through SHIFT-D; answers what was shifted out. */
    static int scanData(ProbeBench x, int length, int bits) {
        modes(x, "100");
        int out = shift(x, length, bits);
        modes(x, "10");
        return out;
    }

    /** Begins in SHIFT, and ends in EXIT1. */
    static int shift(ProbeBench x, int length, int bits) {
        return x.tick(length, 1 << length - 1, bits);
    }

    static int access(int operation, int value, int number) {
        return operation | value << 2 | number << 18;
    }

    /** An object in IDLE with BUSY, INSTRUCTION 3, a read of DATA (value) having been begun. */
    static ProbeBench busy(int value) {
        ProbeBench x = selecting(3);
        x.write(DATA, value);
        modes(x, "100");
        shift(x, 22, access(1, 0, DATA));
        modes(x, "11");
        modes(x, "0110");
        return x;
    }

    /** A new object, halted because it was asked to, with the PC at 0. */
    static ProbeBench halted() {
        ProbeBench x = new ProbeBench();
        x.write(CONTROL, HALT);
        return x;
    }

    /** A new object in IDLE with this INSTRUCTION. */
    static ProbeBench selecting(int instruction) {
        ProbeBench x = new ProbeBench();
        scanInstruction(x, instruction);
        return x;
    }
}
