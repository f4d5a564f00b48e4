import java.util.function.Consumer;

/**
 * Two objects with the same past get different calls that must leave them the same: afterwards
 * every call answers the same on both. The pasts are those in which a wrong change would show.
 */
final class Twins {
    enum Past {
        NEW, RUNNING_AT_63, HALTED_WITH_ERROR, AT_A_TRAP, JUST_RESUMED, IN_RESET, IN_SHIFT_D,
        IN_PAUSE_D, IN_SHIFT_I, BUSY, JUST_BEGUN
    }

    enum Future { LOOK, RUN, COMMAND, SHIFT, UPDATE_AT_ONCE }

    /** Those that don't show what the pins remember. */
    static final Future[] BEHIND_THE_PINS = {Future.LOOK, Future.RUN, Future.COMMAND};

    private Twins() {
    }

    /** These calls change nothing, whatever went before. */
    static void changeNothing(String what, Consumer<ProbeBench> calls) {
        same(what, calls, x -> { });
    }

    /** These calls and the others come to the same, whatever went before. */
    static void same(String what, Consumer<ProbeBench> calls, Consumer<ProbeBench> others) {
        for (Past past : Past.values()) {
            same(what, past, Future.values(), calls, others);
        }
    }

    static void same(String what, Past past, Future[] futures,
            Consumer<ProbeBench> calls, Consumer<ProbeBench> others) {
        for (Future future : futures) {
            ProbeBench x = object(past);
            ProbeBench y = object(past);
            calls.accept(x);
            others.accept(y);
            new Pair(past + ", " + what + ", ", x, y).live(future);
        }
    }

    static ProbeBench object(Past past) {
        return switch (past) {
            case NEW -> new ProbeBench();
            case RUNNING_AT_63 -> runningAt63();
            case HALTED_WITH_ERROR -> haltedWithError();
            case AT_A_TRAP -> atATrap();
            case JUST_RESUMED -> justResumed();
            case IN_RESET -> inReset();
            case IN_SHIFT_D -> inShiftD();
            case IN_PAUSE_D -> inPauseD();
            case IN_SHIFT_I -> inShiftI();
            case BUSY -> Bench.busy(0xFACE);
            case JUST_BEGUN -> justBegun();
        };
    }

    private static ProbeBench runningAt63() {
        ProbeBench x = Bench.with(Bench.op(1, 1, 0, 40), Bench.op(5, 1, 1, 30),
            Bench.op(3, 2, 1, 0), Bench.op(6, 0, 0, 63));
        Bench.load(x, 63, Bench.op(2, 3, 2, 0));
        x.run(4);
        x.write(Bench.ADDRESS, 63);
        return x;
    }

    private static ProbeBench haltedWithError() {
        ProbeBench x = Bench.with(Bench.op(1, 1, 0, 5), Bench.op(1, 7, 0, 9), Bench.BREAK);
        x.run(5);
        for (int i = 0; i < 4; i++) {
            x.write(Bench.PROGRAM + i, Bench.op(1, i, 0, 20 + i));
        }
        x.write(Bench.TRAP_1, Bench.trap(2, 33));
        x.write(Bench.CONTROL, 4);
        x.write(Bench.DATA, 0xABCD);
        x.write(Bench.COMMAND, 0x500);
        x.write(Bench.ADDRESS, 1);
        return x;
    }

    private static ProbeBench atATrap() {
        ProbeBench x = Bench.with(0, Bench.op(1, 4, 0, 4), Bench.op(6, 0, 0, 1));
        x.write(Bench.TRAP_0, Bench.trap(1, 1));
        x.run(9);
        x.write(Bench.DATA, 7);
        return x;
    }

    private static ProbeBench justResumed() {
        ProbeBench x = atATrap();
        x.write(Bench.CONTROL, Bench.RESUME);
        return x;
    }

    /** RESET has not yet had a tick of its own. */
    private static ProbeBench inReset() {
        ProbeBench x = Bench.selecting(9);
        Bench.modes(x, "111");
        return x;
    }

    private static ProbeBench inShiftD() {
        ProbeBench x = Bench.selecting(3);
        Bench.scanData(x, 22, Bench.access(1, 0, Bench.IDENTITY));
        Bench.modes(x, "100");
        x.tick(5, 0, 0b10110);
        return x;
    }

    private static ProbeBench inPauseD() {
        ProbeBench x = inShiftD();
        Bench.modes(x, "10");
        return x;
    }

    private static ProbeBench inShiftI() {
        ProbeBench x = Bench.selecting(2);
        Bench.modes(x, "1100");
        x.tick(1, 0, 1);
        return x;
    }

    /** In SELECT-D, right behind an UPDATE-D that began an operation. */
    private static ProbeBench justBegun() {
        ProbeBench x = Bench.selecting(3);
        Bench.modes(x, "100");
        Bench.shift(x, 22, Bench.access(2, 0x8181, Bench.DATA));
        Bench.modes(x, "11");
        return x;
    }

    /** Makes the same calls on both and compares their answers. */
    private static final class Pair {
        private final String what;
        private final ProbeBench x;
        private final ProbeBench y;

        Pair(String what, ProbeBench x, ProbeBench y) {
            this.what = what;
            this.x = x;
            this.y = y;
        }

        void live(Future future) {
            switch (future) {
                case LOOK -> look();
                case SHIFT -> shiftOn();
                case UPDATE_AT_ONCE -> updateAtOnce();
                case RUN -> runOn();
                case COMMAND -> commandOn();
            }
        }

        private void due(String call, int got, int want) {
            Bench.due(what + call, got, want);
        }

        private void look() {
            due("state()", x.state(), y.state());
            due("instruction()", x.instruction(), y.instruction());
            processor();
            for (int r = 0; r < 16; r++) {
                read(r);
            }
            read(Bench.ADDRESS);
        }

        private void processor() {
            due("pc()", x.pc(), y.pc());
            due("steps()", x.steps(), y.steps());
            for (int r = -1; r <= 8; r++) {
                due("register(" + r + ")", x.register(r), y.register(r));
            }
            for (int i = -1; i <= 64; i++) {
                due("word(" + i + ")", x.word(i), y.word(i));
            }
        }

        /** Wherever the pins are, the row comes out, if there is a way back to its shifting. */
        private void shiftOn() {
            tick(24, 0, 0x5A5A5A);
            tick(2, 0b01, 3);
            tick(24, 0, 0x123456);
            tick(2, 0b01, 0);
            tick(24, 0, 0);
            due("state()", x.state(), y.state());
            pinsFromReset();
        }

        private void updateAtOnce() {
            tick(4, 0b0110, 0);
            due("state()", x.state(), y.state());
            pinsFromReset();
            look();
        }

        private void pinsFromReset() {
            tick(6, 0b011111, 0);
            for (int i = 2; i <= 3; i++) {
                tick(4, 0b0011, 0);
                tick(4, 0b1000, i);
                tick(2, 0b01, 0);
                due("instruction()", x.instruction(), y.instruction());
                tick(3, 0b001, 0);
                tick(22, 1 << 21, 0);
                tick(2, 0b01, 0);
            }
        }

        private void runOn() {
            for (int n : new int[] {1, 1, 50}) {
                due("run(" + n + ")", x.run(n), y.run(n));
                read(Bench.STATUS);
            }
            write(Bench.CONTROL, Bench.STEP_ONCE);
            read(Bench.STATUS);
            processor();
        }

        private void commandOn() {
            write(Bench.COMMAND, 0);
            read(Bench.DATA);
            read(Bench.ERROR);
            write(Bench.CONTROL, Bench.HALT);
            write(Bench.ERROR, 1);
            write(Bench.COMMAND, 0x400);
            write(Bench.MEMORY, 4711);
            look();
        }

        private void read(int r) {
            due("read(" + r + ")", x.read(r), y.read(r));
        }

        private void write(int r, int v) {
            due("write(" + r + ", " + v + ")", x.write(r, v) ? 1 : 0, y.write(r, v) ? 1 : 0);
        }

        private void tick(int n, int modes, int ins) {
            due("tick(" + n + ", " + modes + ", " + ins + ")",
                x.tick(n, modes, ins), y.tick(n, modes, ins));
        }
    }
}
