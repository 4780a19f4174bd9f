import java.util.ArrayList;
import java.util.List;
import java.util.function.Supplier;

/** Calls that answer -1 and change nothing, and calls that only tell, in many states of the machine. */
public final class RefusedTest {
    private static final int[] NO_FRAMES = {1, 65, 0, -1, -2, 66, 128, 258, Integer.MIN_VALUE, Integer.MAX_VALUE};
    private static final int[] NO_STEPS = {-1, 20001, Integer.MIN_VALUE, Integer.MAX_VALUE};
    private static final int[] OUTSIDE = {-1, Integer.MIN_VALUE, Integer.MAX_VALUE};

    /** Reads lines to ever higher pages, puts them OUT and calls, until the INPUT ends. */
    private static final String READS_LINES = "Main PUSHJ $2,Go|Go SETL $16,#1000|Loop SETL $30,9| LDA $31,$16"
            + "| TRAP 2| BN $31,Done| LDA $31,$16| TRAP 1| INCL $16,72| SETL $1,5| SETL $5,6| PUSHJ $3,Sub"
            + "| STO $17,$16,#40| JMP Loop|Done TRAP 0|Sub ADD $17,$17,$1| POP 2";

    public static void main(String[] args) {
        for (State state : states()) {
            endRefuses(state);
            framesRefuses(state);
            runRefuses(state);
            runWithoutLoad(state);
            tellsOnly(state);
        }
        inputRefuses();
        faultKeepsMemory();
        Tester.finish("RefusedTest");
    }

    /** How to make a machine, how many bytes are on its tape then, and whether something is loaded. */
    private record State(String name, Supplier<PagedMachine> maker, int taped, boolean loaded) {
    }

    private static List<State> states() {
        List<State> states = new ArrayList<>();
        states.add(new State("new", PagedMachine::new, 0, false));
        states.add(new State("with a tape", RefusedTest::taped, 33, false));
        states.add(new State("loaded", () -> busy(0), 27, true));
        states.add(new State("in a run", () -> busy(47), 27, true));
        states.add(new State("at the end of a run", () -> busy(20000), 27, true));
        states.add(new State("behind frames()", RefusedTest::cleared, 27, false));
        states.add(new State("behind a text with a fault", RefusedTest::wrongText, 0, false));
        states.add(new State("behind a file with a fault", RefusedTest::wrongFile, 0, false));
        states.add(new State("behind END 4", RefusedTest::ended, 0, true));
        return states;
    }

    private static PagedMachine taped() {
        PagedMachine m = new PagedMachine();
        Tester.tape(m, Tester.bytes("some bytes that wait on the tape\n"));
        return m;
    }

    private static PagedMachine busy(int steps) {
        PagedMachine m = new PagedMachine();
        m.frames(3);
        Tester.input(m, "a line\nand one that is longer\n\nmore\nof\nthem\nand the last one");
        Tester.assemble(m, READS_LINES.replace('|', '\n'));
        m.run(steps);
        Tester.tape(m, Tester.bytes("what waits\non the tape then"));
        return m;
    }

    private static PagedMachine cleared() {
        PagedMachine m = busy(47);
        m.frames(5);
        return m;
    }

    private static PagedMachine wrongText() {
        PagedMachine m = busy(47);
        m.assemble();
        return m;
    }

    private static PagedMachine wrongFile() {
        PagedMachine m = busy(47);
        m.load();
        return m;
    }

    private static PagedMachine ended() {
        return Tester.ran(" SETL $1,#4000| STB $1,$1| NEG $1,0,1| LDB $2,$1", 4);
    }

    /** "-1, and it stays, if n is below 0 or above what it has". */
    private static void endRefuses(State state) {
        int[] wrongs = {-1, state.taped + 1, Integer.MIN_VALUE, Integer.MAX_VALUE, 20000, 20001};
        for (int n : wrongs) {
            Tester.refused("end(" + n + "), " + state.name, state.maker, m -> m.end(n));
        }
        PagedMachine m = state.maker.get();
        Tester.due("end of all, " + state.name, m.end(state.taped), state.taped);
        Tester.alike("end of all, " + state.name, state.maker.get(), m);
    }

    /** "-1, and nothing is changed, if it is not 2 to 64". */
    private static void framesRefuses(State state) {
        for (int f : NO_FRAMES) {
            Tester.refused("frames(" + f + "), " + state.name, state.maker, m -> m.frames(f));
        }
    }

    /** "-1, and nothing is done, if .. it is not 0 to 20000". */
    private static void runRefuses(State state) {
        for (int steps : NO_STEPS) {
            Tester.refused("run(" + steps + "), " + state.name, state.maker, m -> m.run(steps));
        }
        if (state.loaded) {
            PagedMachine m = state.maker.get();
            Tester.due("run(0), " + state.name, m.run(0), m.told(5));
            Tester.alike("run(0), " + state.name, state.maker.get(), m);
        }
    }

    /** "-1, and nothing is done, if nothing is loaded". */
    private static void runWithoutLoad(State state) {
        int[] rights = {0, 1, 20000};
        for (int steps : rights) {
            if (!state.loaded) {
                Tester.refused("run(" + steps + "), " + state.name, state.maker, m -> m.run(steps));
            }
        }
        Tester.due("told(6), " + state.name, state.maker.get().told(6), state.loaded ? 1 : 0);
    }

    /** What only tells changes nothing; "0 for another", "-1 for another", "Nothing is TOUCHED". */
    private static void tellsOnly(State state) {
        PagedMachine m = state.maker.get();
        for (int k : OUTSIDE) {
            Tester.due("fault(" + k + "), " + state.name, m.fault(k), 0);
            Tester.due("register(" + k + "), " + state.name, m.register(k), 0);
            Tester.due("octa(" + k + "), " + state.name, m.octa(k), 0);
            Tester.due("out(" + k + "), " + state.name, m.out(k), -1);
            Tester.due("told(" + k + "), " + state.name, m.told(k), 0);
            Tester.due("page(" + k + "), " + state.name, m.page(k), -1);
        }
        Tester.due("fault(2), " + state.name, m.fault(2), 0);
        Tester.due("register(39), " + state.name, m.register(39), 0);
        Tester.due("octa(65536), " + state.name, m.octa(65536), 0);
        Tester.due("out behind the last, " + state.name, m.out(m.outs()), -1);
        Tester.due("told(8), " + state.name, m.told(8), 0);
        Tester.due("page(64), " + state.name, m.page(64), -1);
        for (int i = 0; i < 39; i++) {
            m.register(i);
            m.octa(1000 * i);
            m.page(i);
        }
        m.steps();
        m.digest();
        Tester.alike("behind what only tells, " + state.name, state.maker.get(), m);
    }

    /** An INPUT of so many bytes, and so many on the tape. */
    private static PagedMachine withInput(int input, int taped) {
        PagedMachine m = new PagedMachine();
        Tester.assemble(m, READS_LINES.replace('|', '\n'));
        Tester.tape(m, new byte[input]);
        m.input();
        Tester.tape(m, new byte[taped]);
        return m;
    }

    /** "-1, and nothing is done, if they would be more than 4000". */
    private static void inputRefuses() {
        Tester.refused("4001 bytes", () -> withInput(0, 4001), PagedMachine::input);
        Tester.refused("1 behind 4000", () -> withInput(4000, 1), PagedMachine::input);
        Tester.refused("3991 behind 10", () -> withInput(10, 3991), PagedMachine::input);
        Tester.refused("21 behind 3980", () -> withInput(3980, 21), PagedMachine::input);
        Tester.due("4000 bytes", withInput(0, 4000).input(), 4000);
        Tester.due("0 behind 4000", withInput(4000, 0).input(), 4000);
        Tester.due("3990 behind 10", withInput(10, 3990).input(), 4000);
        PagedMachine m = withInput(4000, 3);
        Tester.due("3 behind 4000", m.input(), -1);
        Tester.due("a line of 8 comes in", m.run(5), 0);
        Tester.due("so many are left", m.told(7), 3992);
        Tester.due("3 behind 3992", m.input(), 3995);
        Tester.due("the tape is empty then", m.end(1), -1);
    }

    /** "-1: it has a FAULT, nothing is loaded (memory and counts stay as they were)". */
    private static void faultKeepsMemory() {
        int[] steps = {0, 1, 30, 47, 20000};
        for (int count : steps) {
            PagedMachine m = busy(count);
            long[] before = seen(m);
            Tester.due("told(6) ahead of a fault", m.told(6), 1);
            Tester.due("assemble", m.assemble(), -1);
            long[] behind = seen(m);
            for (int i = 0; i < before.length; i++) {
                Tester.due("what is seen, " + i + ", behind a fault", behind[i], before[i]);
            }
            Tester.due("told(6) behind a fault", m.told(6), 0);
            Tester.due("the tape behind a fault", m.end(1), -1);
        }
    }

    private static long[] seen(PagedMachine m) {
        long[] seen = new long[120];
        for (int k = 0; k <= 38; k++) {
            seen[k] = m.register(k);
        }
        for (int what = 0; what <= 5; what++) {
            seen[40 + what] = m.told(what);
        }
        for (int f = 0; f < 3; f++) {
            seen[50 + f] = m.page(f);
        }
        for (int i = 0; i < 60; i++) {
            seen[60 + i] = m.octa(i < 12 ? 8 * i : 4096 + 8 * i);
        }
        return seen;
    }
}
