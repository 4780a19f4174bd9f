/** Promises 1 (a new object), 2 (feed), 3 (end) and 8 (input). */
public final class TapeTest {
    public static void main(String[] args) {
        newObject();
        sixteenFrames();
        feed();
        feedMost();
        end();
        input();
        inputMost();
        endKeepsTheFirst();
        inputComesInOrder();
        inputOutlivesRuns();
        Tester.finish("TapeTest");
    }

    private static void newObject() {
        PagedMachine m = new PagedMachine();
        Tester.due("new: run(0)", m.run(0), -1);
        Tester.due("new: run(5)", m.run(5), -1);
        Tester.due("new: steps", m.steps(), 0);
        Tester.due("new: outs", m.outs(), 0);
        Tester.due("new: out(0)", m.out(0), -1);
        Tester.due("new: fault(0)", m.fault(0), 0);
        Tester.due("new: fault(1)", m.fault(1), -1);
        for (int k = -1; k <= 40; k++) {
            Tester.due("new: register(" + k + ")", m.register(k), 0);
        }
        for (int what = -1; what <= 8; what++) {
            Tester.due("new: told(" + what + ")", m.told(what), 0);
        }
        for (int f = -1; f <= 64; f++) {
            Tester.due("new: page(" + f + ")", m.page(f), -1);
        }
        Tester.due("new: digest", m.digest(), Tester.digestOf(PagedMachine::new, 16));
    }

    private static void sixteenFrames() {
        PagedMachine m = Tester.ran(" SETL $0,15|A LDB $1,$2,64|B INCL $2,64| SUB $0,$0,1"
                + "| BP $0,A| TRAP 0", 1);
        Tester.due("code and fifteen pages", m.told(0), 16);
        Tester.due("the last frame", m.page(15), 15);
        Tester.due("no frame behind it", m.page(16), -1);
        Tester.due("the hand has not gone", m.told(4), 0);
        m = Tester.ran(" SETL $0,16|A LDB $1,$2,64|B INCL $2,64| SUB $0,$0,1| BP $0,A| TRAP 0", 1);
        Tester.due("a seventeenth page takes frame 0", m.page(0), 16);
        Tester.due("the code comes to frame 1 then", m.page(1), 0);
        Tester.due("faults", m.told(0), 18);
        Tester.due("no frame behind the sixteenth", m.page(16), -1);
        Tester.due("the hand has gone", m.told(4), 2);
    }

    private static void feed() {
        PagedMachine m = new PagedMachine();
        Tester.due("feed", m.feed(0x02080102, 0x03040506, 0x070880FE, 0, 0), 20);
        Tester.due("feed", m.feed(1, 2, 3, 4, 5), 40);
        Tester.due("end(10)", m.end(10), 10);
        Tester.due("feed", m.feed(0x06000000, 0, 0, -1, Integer.MIN_VALUE), 30);
        Tester.due("end(19)", m.end(19), 19);
        Tester.due("load", m.load(), 0);
        Tester.due("the highest byte of each first", m.octa(0), 0x0102030405060708L);
        Tester.due("feed: the tape was empty", m.feed(0, 0, 0, 0, 0), 20);
        Tester.due("assemble", m.assemble(), 0);
        Tester.due("feed: the tape was empty", m.feed(0, 0, 0, 0, 0), 20);
        Tester.due("input", m.input(), 20);
        Tester.due("feed: the tape was empty", m.feed(0x40, 0, 0, 0, 0), 20);
        Tester.due("load with a fault", m.load(), -1);
        Tester.due("feed: the tape was empty", m.feed(0x20585858, 0x0A000000, 0, 0, 0), 20);
        Tester.due("assemble with a fault", m.assemble(), -1);
        Tester.due("feed: the tape was empty", m.feed(0, 0, 0, 0, 0), 20);
    }

    /** "-1, and nothing comes, if these would be more than 20000": more calls than are promised for an object. */
    private static void feedMost() {
        PagedMachine m = new PagedMachine();
        for (int i = 1; i <= 1000; i++) {
            Tester.due("feed " + i, m.feed(0x06000000, 0, 0x08000000, i, i), 20 * i);
        }
        Tester.due("feed beyond 20000", m.feed(1, 1, 1, 1, 1), -1);
        Tester.due("nothing came", m.end(20001), -1);
        Tester.due("all is there", m.end(20000), 20000);
        Tester.due("end(19981)", m.end(19981), 19981);
        Tester.due("feed, one too many", m.feed(1, 1, 1, 1, 1), -1);
        Tester.due("nothing came", m.end(19982), -1);
        Tester.due("end(19980)", m.end(19980), 19980);
        Tester.due("feed, just as many", m.feed(1, 1, 1, 1, 1), 20000);
        m.end(9);
        Tester.due("the first bytes are as they were", m.load(), 0);
        Tester.due("THE PLACE", m.register(37), 8);
    }

    private static void end() {
        PagedMachine m = new PagedMachine();
        Tester.due("end(0) of nothing", m.end(0), 0);
        Tester.due("end(1) of nothing", m.end(1), -1);
        m.feed(0, 0, 0, 0, 0);
        Tester.due("end(-1)", m.end(-1), -1);
        Tester.due("end(21)", m.end(21), -1);
        Tester.due("end(MIN)", m.end(Integer.MIN_VALUE), -1);
        Tester.due("end(MAX)", m.end(Integer.MAX_VALUE), -1);
        Tester.due("it stayed", m.feed(0, 0, 0, 0, 0), 40);
        Tester.due("end(40)", m.end(40), 40);
        Tester.due("end(7)", m.end(7), 7);
        Tester.due("end(8)", m.end(8), -1);
        Tester.due("feed behind 7", m.feed(0, 0, 0, 0, 0), 27);
        Tester.due("end(0)", m.end(0), 0);
        Tester.due("feed behind 0", m.feed(0, 0, 0, 0, 0), 20);
    }

    private static void input() {
        PagedMachine m = new PagedMachine();
        Tester.due("input of nothing", m.input(), 0);
        Tester.due("input", Tester.input(m, "abc"), 3);
        Tester.due("told(7)", m.told(7), 3);
        Tester.due("the tape is empty", m.end(1), -1);
        Tester.due("input behind it", Tester.input(m, "de\nf"), 7);
        Tester.assemble(m, " SETL $30,100\n SETL $31,#4000\n TRAP 2\n SETL $0,#4000\n LDO $0,$0\n"
                + " TRAP 0\n");
        Tester.due("the input stays", m.told(7), 7);
        Tester.due("run", m.run(100), 1);
        Tester.due("line", m.register(0), 0x6162636465000000L | 0x0A0000L);
        Tester.due("left", m.told(7), 1);
        Tester.due("input behind what is left", Tester.input(m, "g"), 2);
        Tester.due("frames keeps it", m.frames(5), 5);
        Tester.due("told(7)", m.told(7), 2);
    }

    private static void inputMost() {
        PagedMachine m = new PagedMachine();
        for (int i = 0; i < 200; i++) {
            m.feed(i, i, i, i, i);
        }
        Tester.due("4000 bytes", m.input(), 4000);
        Tester.due("nothing more is fine", m.input(), 4000);
        m.feed(1, 2, 3, 4, 5);
        m.end(1);
        Tester.due("one more is not", m.input(), -1);
        Tester.due("nothing was done", m.told(7), 4000);
        Tester.due("the tape stays", m.feed(0, 0, 0, 0, 0), 21);
    }

    /** Puts the whole INPUT, as it comes, to #1000 and behind. */
    private static final String READS_ALL = " SETL $16,#1000\nLoop SETL $30,#2000\n LDA $31,$16\n TRAP 2\n"
            + " BN $31,Done\n ADD $16,$16,$31\n JMP Loop\nDone TRAP 0\n";

    /** "The TAPE keeps its first n bytes", and what is fed then comes behind them. */
    private static void endKeepsTheFirst() {
        PagedMachine m = new PagedMachine();
        Tester.assemble(m, READS_ALL);
        m.feed(0x01020304, 0x05060708, 0x09FF0B0C, 0x0D0E0F10, 0x11121314);
        Tester.due("end(9)", m.end(9), 9);
        m.feed(0x80818283, 0x84858687, 0x88898B8C, -1, Integer.MIN_VALUE);
        Tester.due("end(28)", m.end(28), 28);
        Tester.due("input", m.input(), 28);
        Tester.due("run", m.run(20000), 1);
        Tester.due("the first bytes", m.octa(0x1000), 0x0102030405060708L);
        Tester.due("the ninth, and what came behind it", m.octa(0x1008), 0x0980818283848586L);
        Tester.due("and on", m.octa(0x1010), 0x8788898B8CFFFFFFL);
        Tester.due("up to the 28th", m.octa(0x1018), 0xFF80000000000000L);
    }

    /** "comes behind the INPUT", also when a part of it is gone and the rest fills all 4000. */
    private static void inputComesInOrder() {
        PagedMachine m = new PagedMachine();
        Tester.assemble(m, READS_ALL);
        Tester.due("input", inputOf(m, 0, 2000), 2000);
        Tester.due("a line of ten", m.run(4), 0);
        Tester.due("the others are left", m.told(7), 1990);
        Tester.due("input", inputOf(m, 2000, 2010), 4000);
        Tester.due("a line of 251", m.run(6), 0);
        Tester.due("input", inputOf(m, 4010, 251), 4000);
        Tester.due("run", m.run(20000), 1);
        for (int i = 0; i + 8 < 4261; i += 40) {
            Tester.due("byte " + i, m.octa(0x1000 + i) >>> 56, 1 + i % 251 & 255);
            Tester.due("byte " + (i + 7), m.octa(0x1000 + i) & 255, 1 + (i + 7) % 251 & 255);
        }
        Tester.due("nothing behind", m.octa(0x1000 + 4264), 0);
    }

    /** Bytes of a row without 0; a 10 in it ends a line, as any byte may. */
    private static int inputOf(PagedMachine m, int from, int count) {
        byte[] bytes = new byte[count];
        for (int i = 0; i < count; i++) {
            bytes[i] = (byte) (1 + (from + i) % 251);
        }
        Tester.tape(m, bytes);
        return m.input();
    }

    /** "(the INPUT stays)", and "bytes of the INPUT that are left" are those that were not taken. */
    private static void inputOutlivesRuns() {
        PagedMachine m = new PagedMachine();
        Tester.due("input ahead of any run", Tester.input(m, "ab\ncd\nef"), 8);
        String reads = " SETL $30,9\n SETL $31,#1000\n TRAP 2\n TRAP 0\n";
        long[] lines = {0x61620A0000000000L, 0x63640A0000000000L, 0x6566000000000000L, 0};
        int[] left = {5, 2, 0, 0};
        for (int i = 0; i < 4; i++) {
            Tester.due("assemble", Tester.assemble(m, reads), 0);
            Tester.due("run", m.run(9), 1);
            Tester.due("line " + i, m.octa(0x1000), lines[i]);
            Tester.due("left behind line " + i, m.told(7), left[i]);
            Tester.due("$31", m.register(31), i < 2 ? 3 : i == 2 ? 2 : -1);
        }
    }
}
