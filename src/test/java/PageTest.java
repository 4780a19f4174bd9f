import java.util.ArrayList;
import java.util.List;

/** Promises 4 (frames), 15 (told) and 16 (page); 2 PAGES of the terms. */
public final class PageTest {
    /** So many steps between two looks at the counts keep an object's calls below 512. */
    private static final int STRIDE = 10;

    public static void main(String[] args) {
        frames();
        framesClear();
        framesBeginAnew();
        refused();
        told();
        byHand();
        cache();
        cacheLosesPage();
        touchedByEach();
        notTouched();
        pageEdges();
        touchesOfNumbers();
        lowestFreeFrame();
        fullAndOneMore();
        handGoesRound();
        handStopsAtUntouched();
        arrivalIsATouch();
        writesSinceItCame();
        readsFromDisk();
        trapsReadAndWrite();
        orderOfTouches();
        endsTouch();
        cacheOfFour();
        cacheIsFirstInFirstOut();
        cacheKeepsPlaceOfLost();
        freshAgain();
        for (int frames = 2; frames <= 64; frames += frames < 9 ? 1 : 11) {
            for (int seed = 1; seed <= 12; seed++) {
                againstModel(frames, seed);
            }
        }
        Tester.finish("PageTest");
    }

    private static void frames() {
        PagedMachine m = new PagedMachine();
        Tester.due("frames(2)", m.frames(2), 2);
        Tester.due("frames(64)", m.frames(64), 64);
        Tester.due("frames(1)", m.frames(1), -1);
        Tester.due("frames(65)", m.frames(65), -1);
        Tester.due("frames(0)", m.frames(0), -1);
        Tester.due("frames(-2)", m.frames(-2), -1);
        Tester.due("frames(MIN)", m.frames(Integer.MIN_VALUE), -1);
        Tester.due("frames(MAX)", m.frames(Integer.MAX_VALUE), -1);
        Tester.due("64 frames are left", m.digest(), Tester.digestOf(PageTest::ofSixtyFour, 64));
    }

    private static PagedMachine ofSixtyFour() {
        PagedMachine m = new PagedMachine();
        m.frames(64);
        return m;
    }

    private static PagedMachine busy() {
        PagedMachine m = new PagedMachine();
        m.frames(3);
        Tester.assemble(m, " SETL $1,64\n SETL $2,99\nA STB $2,$1\n INCL $1,64\n SUB $2,$2,1\n"
                + " CMP $3,$2,90\n BP $3,A\n SETL $31,40\n TRAP 1\n TRAP 0\n BYTE \"out\",0\n");
        Tester.input(m, "input");
        Tester.due("run", m.run(1000), 1);
        return m;
    }

    private static void framesClear() {
        PagedMachine m = busy();
        long one = m.register(1);
        int steps = m.steps();
        Tester.due("frames(5)", m.frames(5), 5);
        for (int address = 0; address < 2048; address += 8) {
            Tester.due("octa(" + address + ")", m.octa(address), 0);
        }
        for (int what = 0; what <= 4; what++) {
            Tester.due("told(" + what + ")", m.told(what), 0);
        }
        for (int f = 0; f < 64; f++) {
            Tester.due("page(" + f + ")", m.page(f), -1);
        }
        Tester.due("loaded", m.told(6), 0);
        Tester.due("run", m.run(1), -1);
        Tester.due("the input stays", m.told(7), 5);
        Tester.due("registers stay", m.register(1), one);
        Tester.due("steps stay", m.steps(), steps);
        Tester.due("what is OUT stays", m.outs(), 3);
    }

    /** Behind frames() a text is taken and run as on a new machine of as many frames. */
    private static void framesBeginAnew() {
        int[] all = {2, 3, 5, 64};
        for (int f : all) {
            String lines = " LOC 128|Main STB $1,$1,64|A LDB $2,$1| INCL $1,64| CMP $3,$1,255| BNP $3,A| TRAP 0";
            PagedMachine once = machine(f, lines);
            PagedMachine again = machine(3, " STB $1,$1,64| STB $1,$1,128| STB $1,$1,192| SETL $31,40| TRAP 1| TRAP 0"
                    + "| LOC 40| BYTE \"out\",0");
            Tester.due("run", again.run(99), 1);
            Tester.due("frames", again.frames(f), f);
            Tester.due("assemble", Tester.assemble(again, lines.replace('|', '\n')), 0);
            Tester.due("digest ahead of the run", again.digest(), once.digest());
            Tester.due("run", again.run(99), once.run(99));
            Tester.due("digest behind the run", again.digest(), once.digest());
        }
    }

    private static void refused() {
        PagedMachine m = busy();
        long digest = m.digest();
        Tester.due("frames(1)", m.frames(1), -1);
        Tester.due("frames(65)", m.frames(65), -1);
        Tester.due("nothing is changed", m.digest(), digest);
        Tester.due("loaded", m.told(6), 1);
    }

    private static void told() {
        PagedMachine m = busy();
        Tester.due("told(-1)", m.told(-1), 0);
        Tester.due("told(8)", m.told(8), 0);
        Tester.due("told(MIN)", m.told(Integer.MIN_VALUE), 0);
        Tester.due("told(MAX)", m.told(Integer.MAX_VALUE), 0);
        Tester.due("told(0), page 0 twice", m.told(0), 11);
        Tester.due("told(1), page 0 twice", m.told(1), 2);
        Tester.due("told(5)", m.told(5), 1);
        Tester.due("told(6)", m.told(6), 1);
        Tester.due("told(7)", m.told(7), 5);
        Tester.due("page(-1)", m.page(-1), -1);
        Tester.due("page(3)", m.page(3), -1);
        Tester.due("page(MIN)", m.page(Integer.MIN_VALUE), -1);
        Tester.due("page(MAX)", m.page(Integer.MAX_VALUE), -1);
    }

    /** Two frames, worked out by hand: the code is in page 0, each access in another page. */
    private static void byHand() {
        PagedMachine m = new PagedMachine();
        m.frames(2);
        Tester.assemble(m, " SETL $1,64\n STB $1,$1\n LDB $2,$1,64\n LDB $2,$1\n TRAP 0\n LOC 128\n BYTE 5\n");
        Tester.due("run(1)", m.run(1), 0);
        row("behind the first", m, 1, 1, 0, 0, 0, -1);
        Tester.due("run(1)", m.run(1), 0);
        row("page 1 comes, it was never touched", m, 2, 1, 0, 0, 0, 1);
        Tester.due("run(1)", m.run(1), 0);
        row("both were touched: the hand goes round; page 0 leaves, unwritten", m, 3, 2, 0, 1, 2, 1);
        Tester.due("$2", m.register(2), 5);
        Tester.due("run(1)", m.run(1), 0);
        row("page 1 was not touched since: it leaves, written; then page 2", m, 5, 4, 1, 1, 1, 0);
        Tester.due("$2", m.register(2), 64);
        Tester.due("run(1)", m.run(1), 1);
        row("page 0 is there", m, 5, 4, 1, 1, 1, 0);
    }

    private static void row(String what, PagedMachine m, int faults, int reads, int writes, int hand,
            int first, int second) {
        Tester.due("faults: " + what, m.told(0), faults);
        Tester.due("reads: " + what, m.told(1), reads);
        Tester.due("writes: " + what, m.told(2), writes);
        Tester.due("hand: " + what, m.told(4), hand);
        Tester.due("frame 0: " + what, m.page(0), first);
        Tester.due("frame 1: " + what, m.page(1), second);
    }

    /** Five pages take turns: the one that came in first goes, though it was touched last. */
    private static void cache() {
        PagedMachine m = Tester.ran(" LDB $2,$1,64| LDB $2,$1,128| LDB $2,$1,192| TRAP 0", 1);
        Tester.due("four pages", m.told(3), 4);
        m = Tester.ran(" SETL $1,256| LDB $2,$0,64| LDB $2,$0,128| LDB $2,$0,192| LDB $2,$1| TRAP 0", 1);
        Tester.due("page 0 is a miss again", m.told(3), 6);
        Tester.due("but no fault", m.told(0), 5);
    }

    private static void cacheLosesPage() {
        PagedMachine m = new PagedMachine();
        m.frames(2);
        Tester.assemble(m, " LDB $2,$1,64\n LDB $2,$1,128\n TRAP 0\n");
        Tester.due("run", m.run(2), 0);
        Tester.due("three misses", m.told(3), 3);
        Tester.due("page 0 left", m.page(0), 2);
        Tester.due("run", m.run(1), 1);
        Tester.due("it left the cache too", m.told(3), 4);
    }

    private static void touchedByEach() {
        PagedMachine m = Tester.ran(" SETL $31,126| TRAP 1| TRAP 0| LOC 126| BYTE \"abc\",0", 1);
        Tester.due("TRAP 1 over two pages", m.told(0), 3);
        m = Tester.ran(" SETL $31,125| TRAP 1| TRAP 0| LOC 125| BYTE \"abc\",0", 1);
        Tester.due("the 0 is read too", m.told(0), 3);
        m = Tester.assembled(" SETL $30,9| SETL $31,126| TRAP 2| TRAP 0");
        Tester.input(m, "a\n");
        Tester.due("run", m.run(9), 1);
        Tester.due("the 0 is written too", m.page(2), 2);
    }

    private static void notTouched() {
        PagedMachine m = Tester.ran(" SETL $1,1000| LDA $2,$1,5| GETA $2,4096| TRAP 0| BYTE 1", 1);
        Tester.due("LDA and GETA touch nothing", m.told(0), 1);
        m = Tester.ran(" SETL $1,1000| BZ $1,4096| BP $1,400| LOC 400| TRAP 0", 1);
        Tester.due("a branch that is not taken touches nothing", m.told(0), 2);
        m = Tester.assembled(" SETL $1,1000| LDO $2,$1");
        m.octa(4096);
        m.digest();
        m.run(0);
        Tester.due("octa, digest and run(0) touch nothing", m.told(0), 0);
    }

    private static PagedMachine machine(int frames, String lines) {
        PagedMachine m = new PagedMachine();
        Tester.due("frames", m.frames(frames), frames);
        Tester.due("assemble of " + lines, Tester.assemble(m, lines.replace('|', '\n')), 0);
        return m;
    }

    private static void pages(String what, PagedMachine m, int... pages) {
        for (int f = 0; f < pages.length; f++) {
            Tester.due("page(" + f + ") " + what, m.page(f), pages[f]);
        }
        Tester.due("no frame behind, " + what, m.page(pages.length), -1);
    }

    private static void counts(String what, PagedMachine m, int... counts) {
        for (int i = 0; i < counts.length; i++) {
            Tester.due("told(" + i + ") " + what, m.told(i), counts[i]);
        }
    }

    /** "PAGE p is the bytes 64 p to 64 p + 63." */
    private static void pageEdges() {
        int[] addresses = {0, 63, 64, 127, 128, 4095, 4096, 65471, 65472, 65535};
        for (int address : addresses) {
            PagedMachine m = Tester.ran(" LOC #8000|Main SETL $1," + address + "| LDB $2,$1| TRAP 0", 1);
            Tester.due("the page of " + address, m.page(1), address / 64);
            m = Tester.ran(" LOC #8000|Main SETL $1," + address + "| STB $2,$1| TRAP 0", 1);
            Tester.due("the page of " + address, m.page(1), address / 64);
            m = Tester.ran(" LOC #8000|Main SETL $31," + address + "| TRAP 1| TRAP 0", 1);
            Tester.due("the page of " + address, m.page(1), address / 64);
        }
        PagedMachine m = Tester.assembled(" LOC 60|Main SWYM| SWYM");
        Tester.due("run", m.run(1), 0);
        pages("of an INSTRUCTION at 60", m, 0);
        Tester.due("run", m.run(1), 0);
        pages("of an INSTRUCTION at 64", m, 0, 1);
    }

    /** "by each byte, or number, that it reads or writes": a number is in one page, where it lies. */
    private static void touchesOfNumbers() {
        String[] names = {"LDT", "LDO", "STT", "STO"};
        for (String name : names) {
            PagedMachine m = Tester.ran(" LOC #8000|Main SETL $1,127| " + name + " $2,$1| TRAP 0", 1);
            pages(name + " at 127", m, 512, 1, -1);
            Tester.due(name + " at 127: misses", m.told(3), 2);
            m = Tester.ran(" LOC #8000|Main SETL $1,128| " + name + " $2,$1| TRAP 0", 1);
            pages(name + " at 128", m, 512, 2, -1);
        }
    }

    /** "it comes to the lowest free FRAME". */
    private static void lowestFreeFrame() {
        PagedMachine m = machine(5, " LDB $2,$1,192| LDB $2,$1,64| LDB $2,$1,128| TRAP 0");
        pages("at first", m, -1, -1, -1, -1, -1);
        m.run(1);
        pages("behind two", m, 0, 3, -1, -1, -1);
        m.run(1);
        pages("behind three", m, 0, 3, 1, -1, -1);
        m.run(2);
        pages("behind four", m, 0, 3, 1, 2, -1);
        counts("behind four", m, 4, 1, 0, 4, 0);
    }

    /** Code in page 512, and a byte of each of so many pages from page 0 on. */
    private static PagedMachine sweep(int frames, int pages, String op) {
        PagedMachine m = machine(frames, " LOC #8000|Main SETL $1," + pages + "|A " + op + " $2,$3| INCL $3,64"
                + "| SUB $1,$1,1| BP $1,A| TRAP 0");
        Tester.due("run", m.run(20000), 1);
        return m;
    }

    /** F FRAMES hold F PAGES; one more PAGE sends one to the disk. */
    private static void fullAndOneMore() {
        int[] all = {2, 3, 4, 5, 16, 63, 64};
        for (int f : all) {
            PagedMachine m = sweep(f, f - 1, "STB");
            counts("of " + f + " frames, full", m, f, 1, 0);
            Tester.due("the hand of " + f + " frames, full", m.told(4), 0);
            Tester.due("the last frame of " + f, m.page(f - 1), f - 2);
            Tester.due("no frame behind " + f, m.page(f), -1);
            m = sweep(f, f, "STB");
            Tester.due("one more than " + f + ": faults", m.told(0) - m.told(1), f);
            Tester.due("one more than " + f + ": the code left first, unwritten", m.told(1), 2);
            Tester.due("one more than " + f + ": frame 0", m.page(0), f - 1);
            Tester.due("one more than " + f + ": then page 0, written", m.told(2), 1);
            Tester.due("one more than " + f + ": frame 1", m.page(1), 512);
            Tester.due("one more than " + f + ": the hand", m.told(4), 2 % f);
        }
    }

    /** All were TOUCHED: the hand goes round to where it stood; "behind the last one the first one". */
    private static void handGoesRound() {
        PagedMachine m = machine(3, " LDB $2,$1,64| LDB $2,$1,128| LDB $2,$1,192| LDB $2,$1,255| TRAP 0| LOC 64"
                + "| BYTE 1");
        m.run(2);
        pages("full", m, 0, 1, 2);
        Tester.due("the hand stands", m.told(4), 0);
        m.run(1);
        pages("the code left for page 3", m, 3, 1, 2);
        Tester.due("the hand went on by one", m.told(4), 1);
        m.run(1);
        pages("the code came for page 1, which was not touched since", m, 3, 0, 2);
        Tester.due("the hand went on by one", m.told(4), 2);
        counts("then", m, 5, 3, 0, 5);
        Tester.due("run", m.run(1), 1);
        Tester.due("the hand stands", m.told(4), 2);
        m = machine(2, " LDB $2,$1,64| LDB $2,$1,128| TRAP 0");
        m.run(2);
        pages("two frames", m, 2, 1);
        m.run(1);
        pages("the code behind it", m, 2, 0);
        Tester.due("behind the last one the first one", m.told(4), 0);
    }

    /** "while the FRAME under the hand was TOUCHED since the hand was there .. the hand goes to the next one". */
    private static void handStopsAtUntouched() {
        String lines = " LDB $2,$1,64| LDB $2,$1,128| LDB $2,$1,192| LDB $2,$4| LDB $2,$5| LDB $2,$6| TRAP 0";
        String head = " LOC #8000|Main SETL $4,256| SETL $5,320| SETL $6,128|";
        PagedMachine m = machine(4, head + lines);
        m.run(6);
        pages("full", m, 512, 1, 2, 3);
        m.run(1);
        pages("page 4 for the code", m, 4, 1, 2, 3);
        Tester.due("the hand", m.told(4), 1);
        m.run(1);
        pages("the code for page 1, then page 5 for page 2", m, 4, 512, 5, 3);
        Tester.due("the hand", m.told(4), 3);
        m.run(1);
        pages("page 2 for page 3", m, 4, 512, 5, 2);
        Tester.due("the hand", m.told(4), 0);
        counts("then", m, 8, 3, 0, 8);
    }

    /** "(or since its PAGE came)": a page that came by a touch was touched, so the hand passes it once. */
    private static void arrivalIsATouch() {
        PagedMachine m = machine(3, " LOC #8000|Main LDB $2,$1,64| LDB $2,$1,128| LDB $2,$1,192| TRAP 0");
        m.run(2);
        pages("full", m, 512, 1, 2);
        m.run(1);
        pages("pages 1 and 2 were passed though they were touched once", m, 3, 1, 2);
        Tester.due("the hand", m.told(4), 1);
    }

    /** "which is a WRITE if it was written to since it came". */
    private static void writesSinceItCame() {
        String head = " LOC #8000|Main SETL $4,64| SETL $5,128|A STB $4,$4| LDB $2,$5| LDB $2,$4| LDB $2,$5";
        PagedMachine m = machine(2, head + "| LDB $2,$4| LDB $2,$5| TRAP 0| LOC 64| BYTE 9");
        m.run(3);
        counts("page 1 came and was written", m, 2, 2, 0);
        m.run(1);
        counts("page 2 for the code", m, 3, 2, 0);
        m.run(1);
        counts("page 1 was sent for the code, a WRITE; then it comes for page 2", m, 5, 4, 1);
        m.run(4);
        Tester.due("it was not written again: no WRITE", m.told(2), 1);
        Tester.due("though it came and left", m.told(0) > 6 ? 1 : 0, 1);
        Tester.due("what was written is there", m.octa(64), 0x4000000000000000L);
    }

    /** "A PAGE that was on the disk comes from there, which is a READ"; "or were never TOUCHED". */
    private static void readsFromDisk() {
        PagedMachine m = Tester.ran(" LDB $2,$1,64| LDB $2,$1,128| TRAP 0| LOC 64| BYTE 0", 1);
        counts("page 2 was never touched", m, 3, 2, 0, 3);
        m = Tester.ran(" STB $2,$1,64| STB $2,$1,128| TRAP 0| LOC 64| BYTE 0", 1);
        counts("nor for a store", m, 3, 2, 0, 3);
        m = sweep(2, 1, "LDB");
        counts("the code alone was on the disk", m, 2, 1, 0, 2);
        m = machine(2, " LOC #8000|Main LDB $2,$1,64| LDB $2,$1,128| LDB $2,$1,64| TRAP 0");
        m.run(2);
        counts("three came, one from the disk", m, 3, 1, 0);
        m.run(1);
        counts("the code came again, then page 1, unwritten, from the disk", m, 5, 3, 0);
    }

    /** TRAP 1 reads, which is no writing; TRAP 2 writes, each byte and the 0. */
    private static void trapsReadAndWrite() {
        String tail = "| LDB $2,$4| LDB $2,$5| LDB $2,$6| TRAP 0| LOC 64| BYTE \"abc\",0";
        PagedMachine m = machine(2, " LOC #8000|Main SETL $5,256| SETL $6,512| SETL $31,64| TRAP 1" + tail);
        Tester.due("run", m.run(99), 1);
        Tester.due("TRAP 1: outs", m.outs(), 3);
        Tester.due("TRAP 1: no WRITE", m.told(2), 0);
        m = machine(2, " LOC #8000|Main SETL $5,256| SETL $6,512| SETL $30,9| SETL $31,64| TRAP 2" + tail);
        Tester.input(m, "xy\n");
        Tester.due("run", m.run(99), 1);
        Tester.due("TRAP 2: a WRITE", m.told(2), 1);
        m = machine(2, " LOC #8000|Main SETL $5,256| SETL $6,512| SETL $30,1| SETL $31,64| TRAP 2" + tail);
        Tester.input(m, "xy\n");
        Tester.due("run", m.run(99), 1);
        Tester.due("TRAP 2, the 0 alone: a WRITE", m.told(2), 1);
        m = machine(2, " LOC #8000|Main SETL $5,256| SETL $6,512| SETL $30,9| SETL $31,64| TRAP 2" + tail);
        Tester.due("run", m.run(99), 1);
        Tester.due("TRAP 2 without INPUT: no WRITE", m.told(2), 0);
        m = machine(4, " LOC #8000|Main SETL $31,126| TRAP 1| TRAP 0| LOC 126| BYTE 65,66,67,0");
        Tester.due("run", m.run(99), 1);
        pages("TRAP 1 over two pages", m, 512, 1, 2, -1);
        m = machine(4, " LOC #8000|Main SETL $30,9| SETL $31,126| TRAP 2| TRAP 0");
        Tester.input(m, "a\n");
        Tester.due("run", m.run(99), 1);
        pages("TRAP 2, whose 0 alone is in the second page", m, 512, 1, 2, -1);
        m = machine(4, " LOC #8000|Main SETL $31,126| TRAP 1| TRAP 0| LOC 126| BYTE 65,0");
        Tester.due("run", m.run(99), 1);
        pages("TRAP 1, whose 0 is the last of a page", m, 512, 1, -1, -1);
        m = machine(4, " LOC #8000|Main SETL $31,127| TRAP 1| TRAP 0| LOC 127| BYTE 65");
        Tester.due("run", m.run(99), 1);
        pages("TRAP 1, whose 0 was never laid", m, 512, 1, 2, -1);
        counts("TRAP 1, whose 0 was never laid", m, 3, 2, 0, 3);
    }

    /** "by an INSTRUCTION that lies in it, when it comes to it, then by each byte, or number .. in order". */
    private static void orderOfTouches() {
        PagedMachine m = machine(2, " LOC 60|Main SETL $1,200| LDB $2,$1| TRAP 0");
        m.run(1);
        pages("the first", m, 0, -1);
        m.run(1);
        pages("the INSTRUCTION at 64 came ahead of its byte", m, 3, 1);
        m = machine(2, " LOC #8000|Main SETL $31,126| TRAP 1| TRAP 0| LOC 126| BYTE 1,1,1,0");
        m.run(2);
        pages("page 2 took the frame of the code", m, 2, 1);
        Tester.due("$31", m.register(31), 126);
    }

    /** "does nothing (but TOUCH)": its own page; no address that is none, and not that of a jump. */
    private static void endsTouch() {
        PagedMachine m = Tester.ran(" LOC #8000|Main SETML $1,1| LDB $2,$1", 4);
        counts("a byte beyond 65535", m, 1, 1, 0, 1);
        m = Tester.ran(" LOC #803C|Main SETML $1,1| LDB $2,$1", 4);
        counts("the INSTRUCTION in the next page", m, 2, 2, 0, 2);
        m = Tester.ran(" LOC #803C|Main SETML $1,1| TETRA #FF000000", 3);
        counts("an op that is none in the next page", m, 2, 2, 0, 2);
        m = Tester.ran(" LOC #8000|Main JMP 0-4", 4);
        counts("a PLACE below 0", m, 1, 1, 0, 1);
        m = Tester.assembled(" LOC #8000|Main JMP 0");
        m.run(1);
        counts("a jump alone", m, 1, 1, 0, 1);
        m = Tester.ran(" LOC #8000|Main NEG $20,0,1| STO $20,$20| TRAP 0", 4);
        counts("a store below 0", m, 1, 1, 0, 1);
    }

    /** "A CACHE knows the FRAMES of four PAGES". */
    private static void cacheOfFour() {
        String loads = " LDB $2,$1,64| LDB $2,$1,128| LDB $2,$1,192|";
        PagedMachine m = Tester.ran(" LOC #8000|Main SWYM|" + loads + loads + loads + " TRAP 0", 1);
        counts("four pages, three times", m, 4, 1, 0, 4);
        m = Tester.ran(" LOC #8000|Main SETL $4,256|" + loads + " LDB $2,$4| TRAP 0", 1);
        counts("a fifth page, then the code, which came in first", m, 5, 1, 0, 6);
    }

    /** "it comes in, instead of the one that came in first", however late that was TOUCHED. */
    private static void cacheIsFirstInFirstOut() {
        PagedMachine m = Tester.assembled(" LOC #8000|Main SETL $4,256| LDB $2,$1,64| LDB $2,$1,128| LDB $2,$1,192"
                + "| LDB $2,$1,64| LDB $2,$4| LDB $2,$1,128| LDB $2,$1,64| TRAP 0");
        m.run(5);
        Tester.due("four are known", m.told(3), 4);
        m.run(1);
        Tester.due("page 4 for the code", m.told(3), 5);
        m.run(1);
        Tester.due("the code for page 1; page 2 is known", m.told(3), 6);
        m.run(1);
        Tester.due("page 1 for page 2, though page 1 was touched later", m.told(3), 7);
        m.run(1);
        Tester.due("the code is known", m.told(3), 7);
        Tester.due("faults", m.told(0), 5);
    }

    /** "a PAGE that leaves its FRAME leaves the CACHE", so that there is room for another. */
    private static void cacheKeepsPlaceOfLost() {
        PagedMachine m = machine(3, " LOC #8000|Main LDB $2,$1,64| LDB $2,$1,128| LDB $2,$1,192| LDB $2,$1,128"
                + "| TRAP 0");
        m.run(2);
        counts("three are known", m, 3, 1, 0, 3);
        m.run(1);
        pages("page 3 for the code", m, 3, 1, 2);
        Tester.due("a miss", m.told(3), 4);
        m.run(1);
        pages("the code for page 1", m, 3, 512, 2);
        Tester.due("one miss: page 2 is known still", m.told(3), 5);
        m.run(1);
        Tester.due("the code is known", m.told(3), 5);
    }

    /** Of a text taken on the same machine nothing is in a frame, known or under the hand. */
    private static void freshAgain() {
        for (int frames = 2; frames <= 5; frames++) {
            String lines = " LOC #8000|Main STB $1,$1,64| STB $1,$1,128| LDB $2,$1,192| LDB $2,$1,255| LDB $2,$1,64"
                    + "| TRAP 0";
            PagedMachine once = machine(frames, lines);
            Tester.due("run", once.run(99), 1);
            PagedMachine again = machine(frames, " LOC 0|Main STB $1,$1,255| STB $1,$1,128| STB $1,$1,64| TRAP 0");
            Tester.due("run", again.run(99), 1);
            Tester.due("assemble", Tester.assemble(again, lines.replace('|', '\n')), 0);
            counts("behind assemble", again, 0, 0, 0, 0, 0);
            Tester.due("run", again.run(99), 1);
            for (int what = 0; what <= 7; what++) {
                Tester.due("told(" + what + ") of the second text", again.told(what), once.told(what));
            }
            for (int f = 0; f < frames; f++) {
                Tester.due("page(" + f + ") of the second text", again.page(f), once.page(f));
            }
            Tester.due("digest of the second text", again.digest(), once.digest());
        }
    }

    /** Loads and stores all over the memory, each step against a model of lists. */
    private static void againstModel(int frames, int seed) {
        PagedMachine m = new PagedMachine();
        m.frames(frames);
        Model model = new Model(frames);
        StringBuilder text = new StringBuilder();
        List<int[]> touches = new ArrayList<>();
        long state = seed * 1000003L + frames;
        for (int i = 0; i < 150; i++) {
            state = state * 6364136223846793005L + 1442695040888963407L;
            int address = 8192 + (int) (state >>> 40 & 2 * frames * 64 - 1) % 56000;
            boolean store = (state >>> 35 & 3) == 0;
            text.append(" SETL $1,").append(address).append(store ? "\n STB $1,$1\n" : "\n LDO $2,$1\n");
            touches.add(new int[] {8 * i, -1, 0});
            touches.add(new int[] {8 * i + 4, address, store ? 1 : 0});
        }
        for (int page = 0; page < 1200; page += 64) {
            model.disk.add(page / 64);
        }
        Tester.due("assemble", Tester.assemble(m, text.toString()), 0);
        String what = " of " + frames + " frames, seed " + seed;
        int done = 0;
        for (int[] touch : touches) {
            model.touch(touch[0] / 64, false);
            if (touch[1] >= 0) {
                model.touch(touch[1] / 64, touch[2] == 1);
            }
            done++;
            if (done % STRIDE != 0) {
                continue;
            }
            m.run(STRIDE);
            Tester.due("faults" + what, m.told(0), model.faults);
            Tester.due("reads" + what, m.told(1), model.reads);
            Tester.due("writes" + what, m.told(2), model.writes);
            Tester.due("misses" + what, m.told(3), model.misses);
            Tester.due("hand" + what, m.told(4), model.hand);
        }
        for (int f = 0; f < 64; f++) {
            Tester.due("page(" + f + ")" + what, m.page(f), f < model.pages.size() ? model.pages.get(f) : -1);
        }
    }

    private static final class Model {
        final int count;
        final List<Integer> pages = new ArrayList<>();
        final List<Boolean> touched = new ArrayList<>();
        final List<Boolean> written = new ArrayList<>();
        final List<Integer> disk = new ArrayList<>();
        final List<Integer> cache = new ArrayList<>();
        int hand;
        int faults;
        int reads;
        int writes;
        int misses;

        Model(int count) {
            this.count = count;
        }

        void touch(int page, boolean write) {
            if (!pages.contains(page)) {
                faults++;
                if (disk.remove((Integer) page)) {
                    reads++;
                }
                place(page);
            }
            int frame = pages.indexOf(page);
            touched.set(frame, true);
            written.set(frame, write || written.get(frame));
            if (!cache.contains(page)) {
                misses++;
                cache.add(page);
                if (cache.size() > 4) {
                    cache.remove(0);
                }
            }
        }

        private void place(int page) {
            if (pages.size() < count) {
                pages.add(page);
                touched.add(false);
                written.add(false);
                return;
            }
            while (touched.get(hand)) {
                touched.set(hand, false);
                hand = (hand + 1) % count;
            }
            int old = pages.set(hand, page);
            writes += written.get(hand) ? 1 : 0;
            written.set(hand, false);
            disk.add(old);
            cache.remove((Integer) old);
            hand = (hand + 1) % count;
        }
    }
}
