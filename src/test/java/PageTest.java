import java.util.ArrayList;
import java.util.List;

/** Promises 4 (frames), 15 (told) and 16 (page); 2 PAGES of the terms. */
public final class PageTest {
    /** So many steps between two looks at the counts keep an object's calls below 512. */
    private static final int STRIDE = 10;

    public static void main(String[] args) {
        frames();
        framesClear();
        refused();
        told();
        byHand();
        cache();
        cacheLosesPage();
        touchedByEach();
        notTouched();
        for (int frames = 2; frames <= 64; frames += frames < 9 ? 1 : 11) {
            for (int seed = 1; seed <= 12; seed++) {
                againstModel(frames, seed);
            }
        }
        Tester.finish("PageTest");
    }

    private static void frames() {
        PagedMachine m = new PagedMachine();
        Tester.due("frames(2)", m.frames(2), 2);
        Tester.due("frames(64)", m.frames(64), 64);
        Tester.due("frames(1)", m.frames(1), -1);
        Tester.due("frames(65)", m.frames(65), -1);
        Tester.due("frames(0)", m.frames(0), -1);
        Tester.due("frames(-2)", m.frames(-2), -1);
        Tester.due("frames(MIN)", m.frames(Integer.MIN_VALUE), -1);
        Tester.due("frames(MAX)", m.frames(Integer.MAX_VALUE), -1);
        Tester.due("64 frames are left", m.digest(), Tester.digestOf(PageTest::ofSixtyFour, 64));
    }

    private static PagedMachine ofSixtyFour() {
        PagedMachine m = new PagedMachine();
        m.frames(64);
        return m;
    }

    private static PagedMachine busy() {
        PagedMachine m = new PagedMachine();
        m.frames(3);
        Tester.assemble(m, " SETL $1,64\n SETL $2,99\nA STB $2,$1\n INCL $1,64\n SUB $2,$2,1\n"
                + " CMP $3,$2,90\n BP $3,A\n SETL $31,40\n TRAP 1\n TRAP 0\n BYTE \"out\",0\n");
        Tester.input(m, "input");
        Tester.due("run", m.run(1000), 1);
        return m;
    }

    private static void framesClear() {
        PagedMachine m = busy();
        long one = m.register(1);
        int steps = m.steps();
        Tester.due("frames(5)", m.frames(5), 5);
        for (int address = 0; address < 2048; address += 8) {
            Tester.due("octa(" + address + ")", m.octa(address), 0);
        }
        for (int what = 0; what <= 4; what++) {
            Tester.due("told(" + what + ")", m.told(what), 0);
        }
        for (int f = 0; f < 64; f++) {
            Tester.due("page(" + f + ")", m.page(f), -1);
        }
        Tester.due("loaded", m.told(6), 0);
        Tester.due("run", m.run(1), -1);
        Tester.due("the input stays", m.told(7), 5);
        Tester.due("registers stay", m.register(1), one);
        Tester.due("steps stay", m.steps(), steps);
        Tester.due("what is OUT stays", m.outs(), 3);
    }

    private static void refused() {
        PagedMachine m = busy();
        long digest = m.digest();
        Tester.due("frames(1)", m.frames(1), -1);
        Tester.due("frames(65)", m.frames(65), -1);
        Tester.due("nothing is changed", m.digest(), digest);
        Tester.due("loaded", m.told(6), 1);
    }

    private static void told() {
        PagedMachine m = busy();
        Tester.due("told(-1)", m.told(-1), 0);
        Tester.due("told(8)", m.told(8), 0);
        Tester.due("told(MIN)", m.told(Integer.MIN_VALUE), 0);
        Tester.due("told(MAX)", m.told(Integer.MAX_VALUE), 0);
        Tester.due("told(0), page 0 twice", m.told(0), 11);
        Tester.due("told(1), page 0 twice", m.told(1), 2);
        Tester.due("told(5)", m.told(5), 1);
        Tester.due("told(6)", m.told(6), 1);
        Tester.due("told(7)", m.told(7), 5);
        Tester.due("page(-1)", m.page(-1), -1);
        Tester.due("page(3)", m.page(3), -1);
        Tester.due("page(MIN)", m.page(Integer.MIN_VALUE), -1);
        Tester.due("page(MAX)", m.page(Integer.MAX_VALUE), -1);
    }

    /** Two frames, worked out by hand: the code is in page 0, each access in another page. */
    private static void byHand() {
        PagedMachine m = new PagedMachine();
        m.frames(2);
        Tester.assemble(m, " SETL $1,64\n STB $1,$1\n LDB $2,$1,64\n LDB $2,$1\n TRAP 0\n LOC 128\n BYTE 5\n");
        Tester.due("run(1)", m.run(1), 0);
        row("behind the first", m, 1, 1, 0, 0, 0, -1);
        Tester.due("run(1)", m.run(1), 0);
        row("page 1 comes, it was never touched", m, 2, 1, 0, 0, 0, 1);
        Tester.due("run(1)", m.run(1), 0);
        row("both were touched: the hand goes round; page 0 leaves, unwritten", m, 3, 2, 0, 1, 2, 1);
        Tester.due("$2", m.register(2), 5);
        Tester.due("run(1)", m.run(1), 0);
        row("page 1 was not touched since: it leaves, written; then page 2", m, 5, 4, 1, 1, 1, 0);
        Tester.due("$2", m.register(2), 64);
        Tester.due("run(1)", m.run(1), 1);
        row("page 0 is there", m, 5, 4, 1, 1, 1, 0);
    }

    private static void row(String what, PagedMachine m, int faults, int reads, int writes, int hand,
            int first, int second) {
        Tester.due("faults: " + what, m.told(0), faults);
        Tester.due("reads: " + what, m.told(1), reads);
        Tester.due("writes: " + what, m.told(2), writes);
        Tester.due("hand: " + what, m.told(4), hand);
        Tester.due("frame 0: " + what, m.page(0), first);
        Tester.due("frame 1: " + what, m.page(1), second);
    }

    /** Five pages take turns: the one that came in first goes, though it was touched last. */
    private static void cache() {
        PagedMachine m = Tester.ran(" LDB $2,$1,64| LDB $2,$1,128| LDB $2,$1,192| TRAP 0", 1);
        Tester.due("four pages", m.told(3), 4);
        m = Tester.ran(" SETL $1,256| LDB $2,$0,64| LDB $2,$0,128| LDB $2,$0,192| LDB $2,$1| TRAP 0", 1);
        Tester.due("page 0 is a miss again", m.told(3), 6);
        Tester.due("but no fault", m.told(0), 5);
    }

    private static void cacheLosesPage() {
        PagedMachine m = new PagedMachine();
        m.frames(2);
        Tester.assemble(m, " LDB $2,$1,64\n LDB $2,$1,128\n TRAP 0\n");
        Tester.due("run", m.run(2), 0);
        Tester.due("three misses", m.told(3), 3);
        Tester.due("page 0 left", m.page(0), 2);
        Tester.due("run", m.run(1), 1);
        Tester.due("it left the cache too", m.told(3), 4);
    }

    private static void touchedByEach() {
        PagedMachine m = Tester.ran(" SETL $31,126| TRAP 1| TRAP 0| LOC 126| BYTE \"abc\",0", 1);
        Tester.due("TRAP 1 over two pages", m.told(0), 3);
        m = Tester.ran(" SETL $31,125| TRAP 1| TRAP 0| LOC 125| BYTE \"abc\",0", 1);
        Tester.due("the 0 is read too", m.told(0), 3);
        m = Tester.assembled(" SETL $30,9| SETL $31,126| TRAP 2| TRAP 0");
        Tester.input(m, "a\n");
        Tester.due("run", m.run(9), 1);
        Tester.due("the 0 is written too", m.page(2), 2);
    }

    private static void notTouched() {
        PagedMachine m = Tester.ran(" SETL $1,1000| LDA $2,$1,5| GETA $2,4096| TRAP 0| BYTE 1", 1);
        Tester.due("LDA and GETA touch nothing", m.told(0), 1);
        m = Tester.ran(" SETL $1,1000| BZ $1,4096| BP $1,400| LOC 400| TRAP 0", 1);
        Tester.due("a branch that is not taken touches nothing", m.told(0), 2);
        m = Tester.assembled(" SETL $1,1000| LDO $2,$1");
        m.octa(4096);
        m.digest();
        m.run(0);
        Tester.due("octa, digest and run(0) touch nothing", m.told(0), 0);
    }

    /** Loads and stores all over the memory, each step against a model of lists. */
    private static void againstModel(int frames, int seed) {
        PagedMachine m = new PagedMachine();
        m.frames(frames);
        Model model = new Model(frames);
        StringBuilder text = new StringBuilder();
        List<int[]> touches = new ArrayList<>();
        long state = seed * 1000003L + frames;
        for (int i = 0; i < 150; i++) {
            state = state * 6364136223846793005L + 1442695040888963407L;
            int address = 8192 + (int) (state >>> 40 & 2 * frames * 64 - 1) % 56000;
            boolean store = (state >>> 35 & 3) == 0;
            text.append(" SETL $1,").append(address).append(store ? "\n STB $1,$1\n" : "\n LDO $2,$1\n");
            touches.add(new int[] {8 * i, -1, 0});
            touches.add(new int[] {8 * i + 4, address, store ? 1 : 0});
        }
        for (int page = 0; page < 1200; page += 64) {
            model.disk.add(page / 64);
        }
        Tester.due("assemble", Tester.assemble(m, text.toString()), 0);
        String what = " of " + frames + " frames, seed " + seed;
        int done = 0;
        for (int[] touch : touches) {
            model.touch(touch[0] / 64, false);
            if (touch[1] >= 0) {
                model.touch(touch[1] / 64, touch[2] == 1);
            }
            done++;
            if (done % STRIDE != 0) {
                continue;
            }
            m.run(STRIDE);
            Tester.due("faults" + what, m.told(0), model.faults);
            Tester.due("reads" + what, m.told(1), model.reads);
            Tester.due("writes" + what, m.told(2), model.writes);
            Tester.due("misses" + what, m.told(3), model.misses);
            Tester.due("hand" + what, m.told(4), model.hand);
        }
        for (int f = 0; f < 64; f++) {
            Tester.due("page(" + f + ")" + what, m.page(f), f < model.pages.size() ? model.pages.get(f) : -1);
        }
    }

    private static final class Model {
        final int count;
        final List<Integer> pages = new ArrayList<>();
        final List<Boolean> touched = new ArrayList<>();
        final List<Boolean> written = new ArrayList<>();
        final List<Integer> disk = new ArrayList<>();
        final List<Integer> cache = new ArrayList<>();
        int hand;
        int faults;
        int reads;
        int writes;
        int misses;

        Model(int count) {
            this.count = count;
        }

        void touch(int page, boolean write) {
            if (!pages.contains(page)) {
                faults++;
                if (disk.remove((Integer) page)) {
                    reads++;
                }
                place(page);
            }
            int frame = pages.indexOf(page);
            touched.set(frame, true);
            written.set(frame, write || written.get(frame));
            if (!cache.contains(page)) {
                misses++;
                cache.add(page);
                if (cache.size() > 4) {
                    cache.remove(0);
                }
            }
        }

        private void place(int page) {
            if (pages.size() < count) {
                pages.add(page);
                touched.add(false);
                written.add(false);
                return;
            }
            while (touched.get(hand)) {
                touched.set(hand, false);
                hand = (hand + 1) % count;
            }
            int old = pages.set(hand, page);
            writes += written.get(hand) ? 1 : 0;
            written.set(hand, false);
            disk.add(old);
            cache.remove((Integer) old);
            hand = (hand + 1) % count;
        }
    }
}
