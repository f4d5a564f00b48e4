/** Promise 2: the pins. */
public final class TickTest {
    private static final int[][] NEXT = {
        {1, 0}, {1, 2}, {3, 9}, {4, 5}, {4, 5}, {6, 8}, {6, 7}, {4, 8},
        {1, 2}, {10, 0}, {11, 12}, {11, 12}, {13, 15}, {13, 14}, {11, 15}, {1, 2}};

    public static void main(String[] args) {
        everyTransition();
        instructionRow();
        identityRow();
        outputOnlyInShift();
        pauseKeepsTheRow();
        reads();
        writes();
        busyRow();
        busyBlocks();
        otherInstructionsDoNothing();
        stepsThroughThePins();
        Bench.end();
    }

    private static void everyTransition() {
        for (int s = 0; s < 16; s++) {
            for (int mode = 0; mode < 2; mode++) {
                ProbeBench x = new ProbeBench();
                Bench.modes(x, Bench.WAY[s]);
                Bench.due("state by " + Bench.WAY[s], x.state(), s);
                x.tick(1, mode, 0);
                Bench.due("state " + s + " by mode " + mode, x.state(), NEXT[s][mode]);
            }
        }
    }

    private static void instructionRow() {
        for (int i = 0; i < 16; i++) {
            ProbeBench x = new ProbeBench();
            Bench.due("out of SHIFT-I", Bench.scanInstruction(x, i), 5);
            Bench.due("INSTRUCTION", x.instruction(), i);
        }
        ProbeBench x = new ProbeBench();
        Bench.modes(x, "01100");
        Bench.due("8 bits through a row of 4", Bench.shift(x, 8, 0b01101001), 0b10010101);
        Bench.modes(x, "1");
        Bench.due("not before UPDATE-I's own tick", x.instruction(), 1);
        Bench.modes(x, "0");
        Bench.due("the last 4 bits", x.instruction(), 0b0110);
        Bench.modes(x, "11011");
        Bench.due("without a shift", x.state(), 15);
        Bench.modes(x, "1");
        Bench.due("the captured row", x.instruction(), 5);
        Bench.due("UPDATE-I by mode 1", x.state(), 2);
    }

    private static void identityRow() {
        ProbeBench x = new ProbeBench();
        Bench.modes(x, "0100");
        Bench.due("the 16 bits and then what came in",
            Bench.shift(x, 20, 0b1011), 23130 | 0b1011 << 16);
        Bench.modes(x, "10");
        Bench.due("and again", Bench.scanData(x, 16, 0xFFFF), 23130);
    }

    private static void outputOnlyInShift() {
        ProbeBench x = new ProbeBench();
        Bench.due("to SHIFT-D", x.tick(4, 0b0010, -1), 0);
        Bench.due("SHIFT-D once", x.tick(1, 1, 1), 0);
        Bench.due("EXIT1-D, PAUSE-D twice, EXIT2-D", x.tick(4, 0b0100, -1), 0);
        Bench.due("the second bit, then EXIT1-D", x.tick(2, 0b11, 0), 1);
        Bench.due("UPDATE-D", x.tick(1, 0, 1), 0);
        Bench.due("to SHIFT-I", x.tick(4, 0b0011, -1), 0);
        Bench.due("SHIFT-I once", x.tick(1, 1, 0), 1);
        Bench.due("EXIT1-I, PAUSE-I, EXIT2-I, UPDATE-I", x.tick(4, 0b0110, -1), 0);
    }

    private static void pauseKeepsTheRow() {
        ProbeBench x = Bench.selecting(3);
        x.write(Bench.CONTROL, Bench.HALT);
        int bits = Bench.access(2, 0xBEEF, Bench.DATA);
        Bench.modes(x, "100");
        x.tick(10, 1 << 9, bits);
        Bench.modes(x, "000010");
        x.tick(12, 1 << 11, bits >> 10);
        Bench.modes(x, "00000111");
        Bench.due("state", x.state(), 2);
        Bench.due("DATA by a scan in two parts", x.read(Bench.DATA), 0xBEEF);
    }

    private static void reads() {
        ProbeBench x = Bench.selecting(3);
        x.write(Bench.DATA, 0xCAFE);
        Bench.scanData(x, 22, Bench.access(1, 0x1234, Bench.DATA));
        Bench.due("DATA stays", x.read(Bench.DATA), 0xCAFE);
        Bench.due("VALUE and number", Bench.scanData(x, 22, Bench.access(1, 0, 13)),
            Bench.access(0, 0xCAFE, Bench.DATA));
        x.read(Bench.DATA);
        Bench.due("reading from outside is not VALUE", Bench.scanData(x, 22, 0),
            Bench.access(0, 23130, 13));
        Bench.load(x, 63, 501, 502);
        x.write(Bench.ADDRESS, 63);
        Bench.scanData(x, 22, Bench.access(1, 0, Bench.MEMORY));
        Bench.due("the word at 63", Bench.scanData(x, 22, Bench.access(1, 0, Bench.MEMORY)),
            Bench.access(0, 501, Bench.MEMORY));
        Bench.due("the word at 0", Bench.scanData(x, 22, 0), Bench.access(0, 502, Bench.MEMORY));
        Bench.due("ADDRESS", x.read(Bench.ADDRESS), 1);
    }

    private static void writes() {
        ProbeBench x = Bench.selecting(3);
        x.write(Bench.DATA, 77);
        Bench.scanData(x, 22, Bench.access(1, 0, Bench.DATA));
        Bench.scanData(x, 22, Bench.access(2, 0xFFFF, Bench.PROGRAM + 3));
        Bench.due("the register", x.read(Bench.PROGRAM + 3), 0xFFFF);
        Bench.due("VALUE stays, the number not", Bench.scanData(x, 22, 0),
            Bench.access(0, 77, Bench.PROGRAM + 3));
        Bench.scanData(x, 22, Bench.access(2, 5, 15));
        Bench.due("a read only register is begun too", Bench.scanData(x, 22, 0),
            Bench.access(0, 77, 15));
        for (int r = Bench.PROGRAM; r < Bench.PROGRAM + 4; r++) {
            Bench.scanData(x, 22, Bench.access(2, 0x8001 + r, r));
            Bench.due("register " + r, x.read(r), 0x8001 + r);
        }
    }

    private static void busyRow() {
        ProbeBench x = Bench.busy(40);
        Bench.due("RESULT 3", Bench.scanData(x, 22, 0), Bench.access(3, 40, Bench.DATA));
        Bench.scanInstruction(x, 2);
        Bench.due("BUSY, bit 0 being 0", Bench.scanData(x, 4, 0b1110), 3);
        Bench.due("BUSY still, and a row of 4 bits", Bench.scanData(x, 6, 0b100001), 0b010011);
        Bench.due("bit 0 was 1 only before", Bench.scanData(x, 4, 1), 3);
        Bench.due("BUSY ended", Bench.scanData(x, 4, 1), 0);
        Bench.due("it stays so", Bench.scanData(x, 4, 0), 0);
        Bench.scanInstruction(x, 3);
        Bench.due("RESULT 0", Bench.scanData(x, 22, Bench.access(1, 0, 13)),
            Bench.access(0, 40, Bench.DATA));
        Bench.due("it works again", Bench.scanData(x, 22, 0), Bench.access(0, 23130, 13));
        x = Bench.busy(41);
        Bench.scanInstruction(x, 2);
        Bench.modes(x, "10110");
        Bench.due("the captured row's own bit ends it", Bench.scanData(x, 4, 0), 0);
    }

    private static void busyBlocks() {
        ProbeBench x = Bench.busy(50);
        Bench.scanData(x, 22, Bench.access(2, 999, Bench.DATA));
        Bench.due("nothing is written", x.read(Bench.DATA), 50);
        Bench.scanData(x, 22, Bench.access(1, 0, Bench.IDENTITY));
        Bench.due("nothing is read", Bench.scanData(x, 22, 0), Bench.access(3, 50, Bench.DATA));
        x.write(Bench.DATA, 51);
        Bench.due("from outside it goes on", x.read(Bench.DATA), 51);
    }

    private static void otherInstructionsDoNothing() {
        for (int i = 0; i < 16; i++) {
            if (i != 3) {
                changeNothing(i);
            }
        }
    }

    private static void changeNothing(int instruction) {
        ProbeBench x = Bench.selecting(3);
        x.write(Bench.DATA, 70);
        Bench.scanData(x, 22, Bench.access(1, 0, Bench.DATA));
        Bench.scanInstruction(x, instruction);
        for (int shifts = 1; shifts <= 22; shifts++) {
            Bench.scanData(x, shifts, Bench.access(2, 71, Bench.DATA) >> 22 - shifts);
            Bench.scanData(x, shifts, Bench.access(1, 71, Bench.IDENTITY) >> 22 - shifts);
        }
        Bench.due("no write by " + instruction, x.read(Bench.DATA), 70);
        Bench.scanInstruction(x, 3);
        Bench.due("no read by " + instruction, Bench.scanData(x, 22, 0),
            Bench.access(0, 70, Bench.DATA));
    }

    private static void stepsThroughThePins() {
        ProbeBench x = Bench.selecting(3);
        Bench.load(x, 0, Bench.op(1, 2, 0, 33), Bench.BREAK);
        Bench.scanData(x, 22, Bench.access(2, Bench.HALT, Bench.CONTROL));
        Bench.scanData(x, 22, Bench.access(2, Bench.STEP_ONCE, Bench.CONTROL));
        Bench.due("register 2", x.register(2), 33);
        Bench.scanData(x, 22, Bench.access(1, 0, Bench.STATUS));
        Bench.due("STATUS through the pins", Bench.scanData(x, 22, 0),
            Bench.access(0, Bench.status(true, 4, 1), Bench.STATUS));
        Bench.scanData(x, 22, Bench.access(2, Bench.STEP_ONCE, Bench.CONTROL));
        Bench.due("STATUS at BREAK", x.read(Bench.STATUS), Bench.status(true, 1, 1));
        Bench.due("steps()", x.steps(), 1);
    }
}
