/** Promises 1 (a new object), 2 (feed), 3 (end) and 8 (input). */
public final class TapeTest {
    public static void main(String[] args) {
        newObject();
        sixteenFrames();
        feed();
        feedMost();
        end();
        input();
        inputMost();
        Tester.finish("TapeTest");
    }

    private static void newObject() {
        PagedMachine m = new PagedMachine();
        Tester.due("new: run(0)", m.run(0), -1);
        Tester.due("new: run(5)", m.run(5), -1);
        Tester.due("new: steps", m.steps(), 0);
        Tester.due("new: outs", m.outs(), 0);
        Tester.due("new: out(0)", m.out(0), -1);
        Tester.due("new: fault(0)", m.fault(0), 0);
        Tester.due("new: fault(1)", m.fault(1), -1);
        for (int k = -1; k <= 40; k++) {
            Tester.due("new: register(" + k + ")", m.register(k), 0);
        }
        for (int what = -1; what <= 8; what++) {
            Tester.due("new: told(" + what + ")", m.told(what), 0);
        }
        for (int f = -1; f <= 64; f++) {
            Tester.due("new: page(" + f + ")", m.page(f), -1);
        }
        Tester.due("new: digest", m.digest(), Tester.digestOf(PagedMachine::new, 16));
    }

    private static void sixteenFrames() {
        PagedMachine m = Tester.ran(" SETL $0,15|A LDB $1,$2,64|B INCL $2,64| SUB $0,$0,1"
                + "| BP $0,A| TRAP 0", 1);
        Tester.due("code and fifteen pages", m.told(0), 16);
        Tester.due("the last frame", m.page(15), 15);
        Tester.due("no frame behind it", m.page(16), -1);
        Tester.due("the hand has not gone", m.told(4), 0);
    }

    private static void feed() {
        PagedMachine m = new PagedMachine();
        Tester.due("feed", m.feed(0x02080102, 0x03040506, 0x070880FE, 0, 0), 20);
        Tester.due("feed", m.feed(1, 2, 3, 4, 5), 40);
        Tester.due("end(10)", m.end(10), 10);
        Tester.due("feed", m.feed(0x06000000, 0, 0, -1, Integer.MIN_VALUE), 30);
        Tester.due("end(19)", m.end(19), 19);
        Tester.due("load", m.load(), 0);
        Tester.due("the highest byte of each first", m.octa(0), 0x0102030405060708L);
        Tester.due("feed: the tape was empty", m.feed(0, 0, 0, 0, 0), 20);
        Tester.due("assemble", m.assemble(), 0);
        Tester.due("feed: the tape was empty", m.feed(0, 0, 0, 0, 0), 20);
        Tester.due("input", m.input(), 20);
        Tester.due("feed: the tape was empty", m.feed(0x40, 0, 0, 0, 0), 20);
        Tester.due("load with a fault", m.load(), -1);
        Tester.due("feed: the tape was empty", m.feed(0x20585858, 0x0A000000, 0, 0, 0), 20);
        Tester.due("assemble with a fault", m.assemble(), -1);
        Tester.due("feed: the tape was empty", m.feed(0, 0, 0, 0, 0), 20);
    }

    /** A full tape takes more calls than are promised for an object; it must not be overrun then either. */
    private static void feedMost() {
        PagedMachine m = new PagedMachine();
        for (int i = 1; i <= 1000; i++) {
            Tester.due("feed " + i, m.feed(i, i, i, i, i), 20 * i);
        }
        Tester.due("feed beyond 20000", m.feed(1, 1, 1, 1, 1), -1);
        Tester.due("nothing came", m.end(20001), -1);
        Tester.due("end(19981)", m.end(19981), 19981);
        Tester.due("feed, one too many", m.feed(1, 1, 1, 1, 1), -1);
        Tester.due("end(19980)", m.end(19980), 19980);
        Tester.due("feed, just as many", m.feed(1, 1, 1, 1, 1), 20000);
    }

    private static void end() {
        PagedMachine m = new PagedMachine();
        Tester.due("end(0) of nothing", m.end(0), 0);
        Tester.due("end(1) of nothing", m.end(1), -1);
        m.feed(0, 0, 0, 0, 0);
        Tester.due("end(-1)", m.end(-1), -1);
        Tester.due("end(21)", m.end(21), -1);
        Tester.due("end(MIN)", m.end(Integer.MIN_VALUE), -1);
        Tester.due("end(MAX)", m.end(Integer.MAX_VALUE), -1);
        Tester.due("it stayed", m.feed(0, 0, 0, 0, 0), 40);
        Tester.due("end(40)", m.end(40), 40);
        Tester.due("end(7)", m.end(7), 7);
        Tester.due("end(8)", m.end(8), -1);
        Tester.due("feed behind 7", m.feed(0, 0, 0, 0, 0), 27);
        Tester.due("end(0)", m.end(0), 0);
        Tester.due("feed behind 0", m.feed(0, 0, 0, 0, 0), 20);
    }

    private static void input() {
        PagedMachine m = new PagedMachine();
        Tester.due("input of nothing", m.input(), 0);
        Tester.due("input", Tester.input(m, "abc"), 3);
        Tester.due("told(7)", m.told(7), 3);
        Tester.due("the tape is empty", m.end(1), -1);
        Tester.due("input behind it", Tester.input(m, "de\nf"), 7);
        Tester.assemble(m, " SETL $30,100\n SETL $31,#4000\n TRAP 2\n SETL $0,#4000\n LDO $0,$0\n"
                + " TRAP 0\n");
        Tester.due("the input stays", m.told(7), 7);
        Tester.due("run", m.run(100), 1);
        Tester.due("line", m.register(0), 0x6162636465000000L | 0x0A0000L);
        Tester.due("left", m.told(7), 1);
        Tester.due("input behind what is left", Tester.input(m, "g"), 2);
        Tester.due("frames keeps it", m.frames(5), 5);
        Tester.due("told(7)", m.told(7), 2);
    }

    private static void inputMost() {
        PagedMachine m = new PagedMachine();
        for (int i = 0; i < 200; i++) {
            m.feed(i, i, i, i, i);
        }
        Tester.due("4000 bytes", m.input(), 4000);
        Tester.due("nothing more is fine", m.input(), 4000);
        m.feed(1, 2, 3, 4, 5);
        m.end(1);
        Tester.due("one more is not", m.input(), -1);
        Tester.due("nothing was done", m.told(7), 4000);
        Tester.due("the tape stays", m.feed(0, 0, 0, 0, 0), 21);
    }
}
