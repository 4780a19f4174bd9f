import java.util.Arrays;

/** Promises 6 (load) and 7 (fault) for files, and 4 FILES of the terms. */
public final class LoadTest {
    private static final int[] START = {6, 0, 0, 0, 0, 0, 0, 0, 0};

    public static void main(String[] args) {
        layAndMove();
        refer();
        faults();
        afterFault();
        begins();
        numbersOfBytes();
        laysUpToTheEnd();
        movesAnywhere();
        startsAnywhere();
        octasGo();
        offsetsGo();
        cuts();
        kinds();
        endsWithStart();
        theLeastOfSeveral();
        faultDoesNothing();
        addressBeginsAtZero();
        zerosFirst();
        pagesOnDisk();
        freshBehindLoad();
        newRunOnlyIfRight();
        Tester.finish("LoadTest");
    }

    private static int[] join(int[]... parts) {
        int length = 0;
        for (int[] part : parts) {
            length += part.length;
        }
        int[] all = new int[length];
        int at = 0;
        for (int[] part : parts) {
            System.arraycopy(part, 0, all, at, part.length);
            at += part.length;
        }
        return all;
    }

    private static int[] record(int kind, long number) {
        int[] bytes = new int[9];
        bytes[0] = kind;
        for (int i = 1; i <= 8; i++) {
            bytes[i] = (int) (number >>> 64 - 8 * i) & 255;
        }
        return bytes;
    }

    private static int[] lay(int n) {
        int[] bytes = new int[2 + n];
        bytes[0] = 2;
        bytes[1] = n;
        for (int i = 0; i < n; i++) {
            bytes[2 + i] = i + 1;
        }
        return bytes;
    }

    private static void fault(int number, int place, int[]... parts) {
        PagedMachine m = new PagedMachine();
        String what = "load with the fault " + number + " at " + place;
        Tester.due(what, Tester.load(m, join(parts)), -1);
        Tester.due(what + ", its number", m.fault(0), number);
        Tester.due(what + ", its place", m.fault(1), place);
        Tester.due(what + ", loaded", m.told(6), 0);
        Tester.due(what + ", run", m.run(1), -1);
    }

    private static PagedMachine right(int[]... parts) {
        PagedMachine m = new PagedMachine();
        Tester.due("load", Tester.load(m, join(parts)), 0);
        Tester.due("fault(0)", m.fault(0), 0);
        Tester.due("fault(1)", m.fault(1), -1);
        Tester.due("fault(2)", m.fault(2), 0);
        Tester.due("loaded", m.told(6), 1);
        return m;
    }

    private static void layAndMove() {
        PagedMachine m = right(lay(3), lay(2), record(1, 65533), lay(3), record(1, 65536),
                record(1, 8), lay(255), START);
        Tester.due("octa(0)", m.octa(0), 0x0102030102000000L);
        Tester.due("octa(65528)", m.octa(65528), 0x0000000000010203L);
        Tester.due("octa(8)", m.octa(8), 0x0102030405060708L);
        Tester.due("octa(256)", m.octa(256), 0xF9FAFBFCFDFEFF00L);
        m = right(record(6, 65536));
        Tester.due("a run at 65536", m.run(1), 4);
        m = right(record(6, 2));
        Tester.due("the place is what 6 says", m.register(37), 2);
    }

    private static void refer() {
        PagedMachine m = right(record(1, 4660), record(3, 65528), record(3, 0), START);
        Tester.due("3: octa(65528)", m.octa(65528), 4660);
        Tester.due("3: octa(0)", m.octa(0), 4660);
        m = right(lay(8), record(1, 0), record(4, 4), record(1, 40), record(4, 65532),
                record(5, 0), START);
        Tester.due("5 and 4: octa(0)", m.octa(0), 0x0100000A0506FFFFL);
        Tester.due("4: octa(65528)", m.octa(65528), 0x000000000000C00BL);
        m = right(record(5, 65532), record(1, 65536), record(5, 8), record(4, 12), START);
        Tester.due("5: octa(65528)", m.octa(65528), 0x0000000000FFC001L);
        Tester.due("5 and 4: octa(8)", m.octa(8), 0x00003FFE00003FFDL);
    }

    private static void faults() {
        fault(11, 0);
        fault(11, 9, record(1, 5));
        fault(11, 0, new int[] {1, 0, 0, 0, 0, 0, 0, 0});
        fault(11, 3, lay(1), new int[] {6});
        fault(11, 3, lay(1), new int[] {2});
        fault(11, 3, lay(1), new int[] {2, 3, 1, 1});
        fault(12, 0, new int[] {0});
        fault(12, 3, lay(1), new int[] {7, 0, 0, 0, 0, 0, 0, 0, 0});
        fault(12, 0, new int[] {255});
        fault(12, 0, new int[] {2, 0}, START);
        fault(12, 0, new int[] {2, 0});
        fault(11, 3, lay(1));
        fault(12, 9, START, new int[] {0});
        fault(12, 9, START, START);
        fault(13, 0, record(1, 65537));
        fault(13, 0, record(1, -1));
        fault(13, 9, record(1, 65536), lay(1), START);
        fault(13, 9, record(1, 65534), lay(3), START);
        fault(11, 9, record(1, 65534), new int[] {2, 3, 1});
        fault(13, 0, record(6, 65537));
        fault(13, 0, record(6, 1L << 32));
        fault(13, 0, record(6, -4), START);
        fault(13, 0, record(3, 65536), START);
        fault(13, 0, record(3, 4), START);
        fault(13, 0, record(3, -8), START);
        fault(13, 0, record(4, 2), START);
        fault(13, 0, record(4, 65536), START);
        fault(13, 0, record(5, 1), START);
        fault(13, 0, record(5, Long.MIN_VALUE), START);
        fault(14, 9, record(1, 2), record(4, 0), START);
        fault(14, 9, record(1, 3), record(5, 8), START);
        fault(13, 9, record(1, 2), record(4, 2), START);
    }

    /** The records ahead of the fault have been done, on a memory of zeros. */
    private static void afterFault() {
        PagedMachine m = Tester.ran(" SETL $1,#4000| STO $1,$1| SETL $31,7| TRAP 0", 1);
        Tester.due("load", Tester.load(m, join(record(1, 8192), lay(4), new int[] {9})), -1);
        Tester.due("place", m.fault(1), 15);
        Tester.due("octa(0)", m.octa(0), 0);
        Tester.due("octa(#4000)", m.octa(0x4000), 0);
        Tester.due("octa(8192)", m.octa(8192), 0x0102030400000000L);
        Tester.due("faults", m.told(0), 0);
        Tester.due("misses", m.told(3), 0);
        Tester.due("page(0)", m.page(0), -1);
        Tester.due("run", m.run(1), -1);
        Tester.due("the registers stay", m.register(31), 7);
        Tester.due("the steps stay", m.steps(), 4);
        Tester.due("load", Tester.load(m, START), 0);
        Tester.due("octa(8192)", m.octa(8192), 0);
        Tester.due("fault(0)", m.fault(0), 0);
        Tester.due("fault(1)", m.fault(1), -1);
        Tester.due("the registers are empty", m.register(31), 0);
        Tester.due("told(5)", m.told(5), 0);
    }

    /** Pages where something was laid, or went, come from the disk; others do not. */
    private static void begins() {
        PagedMachine m = right(record(3, 64), lay(8), record(1, 128), record(6, 0));
        Tester.due("an op that is none", m.run(1), 3);
        Tester.due("page 0 was on the disk", m.told(1), 1);
        m = right(record(3, 64), record(6, 64));
        Tester.due("TRAP 0 where zeros went", m.run(1), 1);
        Tester.due("page 1 was on the disk", m.told(1), 1);
        m = right(record(3, 64), record(6, 128));
        Tester.due("TRAP 0 where nothing is", m.run(1), 1);
        Tester.due("page 2 was not on the disk", m.told(1), 0);
        Tester.due("but it came", m.told(0), 1);
    }

    /** "2, a number n of 1 to 255, and n bytes"; "12 .. n = 0". */
    private static void numbersOfBytes() {
        PagedMachine m = right(lay(1), START);
        Tester.due("one byte", m.octa(0), 1L << 56);
        m = right(lay(255), lay(1), START);
        Tester.due("255 bytes: the last ones, and the one behind", m.octa(248), 0xF9FAFBFCFDFEFF01L);
        Tester.due("nothing behind", m.octa(256), 0);
        fault(12, 3, lay(1), new int[] {2, 0}, START);
    }

    /** "which goes on"; "a byte that would be laid beyond 65535". */
    private static void laysUpToTheEnd() {
        PagedMachine m = right(record(1, 65281), lay(255), START);
        Tester.due("255 up to 65535", m.octa(65535), 0xF8F9FAFBFCFDFEFFL);
        fault(13, 9, record(1, 65282), lay(255), START);
        m = right(record(1, 65535), lay(1), START);
        Tester.due("one at 65535", m.octa(65528), 1);
        fault(13, 12, record(1, 65535), lay(1), lay(1), START);
        m = right(record(1, 65535), lay(1), record(3, 8), START);
        Tester.due("THE ADDRESS behind the last byte", m.octa(8), 65536);
        m = new PagedMachine();
        Tester.due("two at 65535", Tester.load(m, join(record(1, 65535), lay(2), START)), -1);
        Tester.due("none of them is laid", m.octa(65528), 0);
    }

    /** "1 and 8 bytes: THE ADDRESS becomes that"; "13 an address that is not 0 to 65535 (1 and 6: 65536)". */
    private static void movesAnywhere() {
        long[] rights = {0, 1, 65535, 65536};
        for (long to : rights) {
            Tester.due("THE ADDRESS " + to, right(record(1, to), record(3, 0), START).octa(0), to);
        }
        long[] wrongs = {65537, -1, 1L << 32, Long.MAX_VALUE, Long.MIN_VALUE, -65536, 1L << 16 | 1L << 48};
        for (long to : wrongs) {
            fault(13, 3, lay(1), record(1, to), START);
        }
    }

    /** "6 and 8 bytes: a run begins there". */
    private static void startsAnywhere() {
        long[] rights = {0, 1, 3, 4, 65535, 65536};
        for (long to : rights) {
            Tester.due("THE PLACE " + to, right(record(6, to)).register(37), to);
        }
        long[] wrongs = {65537, -1, 1L << 32, Long.MAX_VALUE, Long.MIN_VALUE};
        for (long to : wrongs) {
            fault(13, 3, lay(1), record(6, to));
        }
    }

    /** "3 and 8 bytes, an address: THE ADDRESS as 8 bytes goes there"; "of 3 to 5, not a multiple of 8, 4, 4". */
    private static void octasGo() {
        long[] rights = {0, 8, 65528};
        for (long to : rights) {
            PagedMachine m = right(record(1, 0x1234), record(3, to), START);
            Tester.due("octa at " + to, m.octa((int) to), 0x1234);
        }
        PagedMachine m = right(lay(16), record(3, 0), START);
        Tester.due("all eight bytes go", m.octa(0), 16);
        Tester.due("and no other", m.octa(8), 0x090A0B0C0D0E0F10L);
        for (int to = 1; to < 8; to++) {
            fault(13, 9, record(1, 8), record(3, to), START);
        }
        fault(13, 0, record(3, 65536), START);
        fault(13, 0, record(3, 65535), START);
        fault(13, 0, record(3, -8), START);
        fault(13, 0, record(3, Long.MIN_VALUE), START);
        fault(13, 0, record(3, 1L << 32), START);
    }

    /** "the offset from that address to THE ADDRESS, by 4, goes to the bytes 2 and 3 behind it; 5 .. 1 to 3". */
    private static void offsetsGo() {
        PagedMachine m = right(lay(8), record(1, 65536), record(4, 0), START);
        Tester.due("4, up by the most", m.octa(0), 0x0102400005060708L);
        m = right(lay(8), record(1, 65536), record(5, 0), START);
        Tester.due("5, up by the most", m.octa(0), 0x0100400005060708L);
        m = right(record(1, 65528), lay(8), record(1, 0), record(4, 65532), START);
        Tester.due("4, down by the most", m.octa(65528), 0x010203040506C001L);
        m = right(record(1, 65528), lay(8), record(1, 0), record(5, 65532), START);
        Tester.due("5, down by the most", m.octa(65528), 0x0102030405FFC001L);
        m = right(lay(8), record(1, 4), record(4, 4), START);
        Tester.due("4, by none", m.octa(0), 0x0102030405060000L);
        m = right(lay(8), record(1, 4), record(5, 0), record(1, 0), record(5, 4), START);
        Tester.due("5, by one up and down", m.octa(0), 0x0100000105FFFFFFL);
        for (int kind = 4; kind <= 5; kind++) {
            for (int off = 1; off < 4; off++) {
                fault(13, 0, record(kind, off), START);
                fault(14, 9, record(1, off), record(kind, 0), START);
                fault(14, 9, record(1, off), record(kind, 8), START);
            }
            fault(13, 0, record(kind, 65536), START);
            fault(13, 0, record(kind, -4), START);
            fault(13, 0, record(kind, 1L << 33), START);
        }
    }

    /** "11 it ends within a record, or without 6". */
    private static void cuts() {
        fault(11, 0);
        for (int kind = 1; kind <= 6; kind++) {
            int[] record = kind == 2 ? lay(8) : record(kind, 0);
            for (int length = 1; length < record.length; length++) {
                fault(11, 0, Arrays.copyOf(record, length));
                fault(11, 9, record(1, 64), Arrays.copyOf(record, length));
            }
            if (kind != 6) {
                fault(11, record.length, record);
            }
        }
        fault(11, 0, Arrays.copyOf(lay(255), 256));
        fault(11, 257, lay(255));
    }

    /** "12 no such record". */
    private static void kinds() {
        for (int kind = 0; kind < 256; kind++) {
            if (kind < 1 || kind > 6) {
                fault(12, 3, lay(1), record(kind, 0), START);
                fault(12, 3, lay(1), new int[] {kind});
            }
        }
    }

    /** "it is the last one"; "bytes behind 6 (at the first)". */
    private static void endsWithStart() {
        fault(12, 9, START, new int[] {0});
        fault(12, 9, START, new int[] {6});
        fault(12, 12, lay(1), START, lay(3), START);
    }

    /** "of several the least". */
    private static void theLeastOfSeveral() {
        fault(11, 9, record(1, 65536), new int[] {2, 3, 1, 2});
        fault(11, 9, record(1, 65536), new int[] {2});
        fault(12, 9, record(1, 65536), new int[] {2, 0}, START);
        fault(11, 9, record(1, 2), new int[] {4, 255, 255, 255, 255, 255, 255, 255});
        fault(13, 9, record(1, 1), record(4, 65536), START);
        fault(13, 9, record(1, 1), record(5, 2), START);
        fault(11, 0, new int[] {6, 255, 255});
    }

    /** "records ahead of a FAULT have been done, that one does nothing". */
    private static void faultDoesNothing() {
        int[][] wrongs = {
            {2, 0}, {2, 5, 1, 2}, record(1, 65537), record(3, 1), record(4, 2), record(5, 65536), {9}, {6, 0},
        };
        for (int[] wrong : wrongs) {
            PagedMachine m = Tester.ran(" STO $20,$20,128| SETL $20,5| TRAP 0", 1);
            Tester.due("load", Tester.load(m, join(record(1, 8), lay(8), record(3, 16), wrong)), -1);
            Tester.due("all bytes were made 0", m.octa(0), 0);
            Tester.due("8 bytes were laid", m.octa(8), 0x0102030405060708L);
            Tester.due("THE ADDRESS went", m.octa(16), 16);
            Tester.due("nothing else", m.octa(24), 0);
            Tester.due("the place", m.fault(1), 28);
        }
        PagedMachine m = new PagedMachine();
        Tester.due("load", Tester.load(m, join(lay(8), record(1, 2), record(4, 0), START)), -1);
        Tester.due("an offset that is none does not go", m.octa(0), 0x0102030405060708L);
        Tester.due("load", Tester.load(m, join(lay(8), record(3, 12), START)), -1);
        Tester.due("nor to an address that is none", m.octa(8), 0);
    }

    /** "THE ADDRESS is 0 at first", of each file. */
    private static void addressBeginsAtZero() {
        PagedMachine m = right(record(1, 64), lay(8), START);
        Tester.due("load again", Tester.load(m, join(lay(8), START)), 0);
        Tester.due("laid at 0", m.octa(0), 0x0102030405060708L);
        Tester.due("not at 72", m.octa(72), 0);
        m = right(record(3, 8), START);
        Tester.due("3 at first", m.octa(8), 0);
        m = right(record(5, 4), START);
        Tester.due("5 at first", m.octa(0), 0xFFFFFFL);
    }

    /** "The loader makes all bytes 0 first", also those of an earlier file and of a run. */
    private static void zerosFirst() {
        PagedMachine m = right(lay(255), record(1, 65281), lay(255), START);
        Tester.due("load again", Tester.load(m, START), 0);
        for (int address = 0; address < 512; address += 8) {
            Tester.due("octa(" + address + ")", m.octa(address), 0);
            Tester.due("octa of the end", m.octa(65024 + address), 0);
        }
        Tester.due("an empty file", Tester.load(m, join(lay(8), START)), 0);
        Tester.due("has a fault", m.load(), -1);
        Tester.due("and makes all 0", m.octa(0), 0);
    }

    /** "all PAGES in which something was laid (or went) are on the disk, no other was TOUCHED". */
    private static void pagesOnDisk() {
        int[][] ways = {
            join(record(1, 64), lay(1)), join(record(1, 127), lay(1)), join(record(1, 120), lay(9)),
            record(3, 64), record(3, 120), join(record(1, 64), record(4, 124)), record(5, 64)
        };
        for (int[] way : ways) {
            PagedMachine m = right(way, record(6, 1024));
            Tester.due("READS of a page that was not laid", reads(m, 1024), 0);
            Tester.due("READS of page 1", reads(right(way, record(6, 64)), 64), 1);
            Tester.due("READS of page 0", reads(right(way, record(6, 0)), 0), 0);
        }
        Tester.due("READS of page 2", reads(right(record(1, 120), lay(9), record(6, 128)), 128), 1);
        Tester.due("READS of page 3", reads(right(record(1, 120), lay(9), record(6, 192)), 192), 0);
        Tester.due("READS of where THE ADDRESS went alone", reads(right(record(1, 64), record(6, 64)), 64), 0);
        Tester.due("READS of the last page", reads(right(record(1, 65535), lay(1), record(6, 65528)), 65528), 1);
    }

    private static int reads(PagedMachine m, int place) {
        Tester.due("THE PLACE", m.register(37), place);
        m.run(1);
        Tester.due("it came", m.told(0), 1);
        return m.told(1);
    }

    /** "all FRAMES are free, the hand is at FRAME 0, the CACHE is empty, all counts are 0". */
    private static void freshBehindLoad() {
        for (int wrong = 0; wrong < 2; wrong++) {
            PagedMachine m = new PagedMachine();
            m.frames(2);
            Tester.assemble(m, " STB $20,$20,64\n STB $20,$20,128\n LDB $20,$20,192\n TRAP 0\n");
            Tester.due("run", m.run(9), 1);
            Tester.due("the hand has gone", m.told(4), 1);
            int[] file = wrong == 0 ? join(lay(1), record(6, 64)) : lay(1);
            Tester.due("load", Tester.load(m, file), -wrong);
            for (int what = 0; what <= 4; what++) {
                Tester.due("told(" + what + ") behind load", m.told(what), 0);
            }
            Tester.due("frame 0", m.page(0), -1);
            Tester.due("frame 1", m.page(1), -1);
        }
        PagedMachine m = Tester.ran(" TRAP 0", 1);
        Tester.due("load", Tester.load(m, join(lay(1), START)), 0);
        Tester.due("run", m.run(1), 3);
        Tester.due("page 0 comes again", m.told(0), 1);
        Tester.due("it is read again", m.told(1), 1);
        Tester.due("the cache knew nothing", m.told(3), 1);
        Tester.due("load", Tester.load(m, record(6, 0)), 0);
        Tester.due("run", m.run(1), 1);
        Tester.due("page 0 was not laid now", m.told(1), 0);
    }

    /** "A loader without a FAULT begins a new run", where record 6 says, and only then. */
    private static void newRunOnlyIfRight() {
        PagedMachine m = right(record(6, 64));
        Tester.due("run", m.run(1), 1);
        Tester.due("load", Tester.load(m, 1, 2), -1);
        Tester.due("the place stays", m.register(37), 68);
        Tester.due("the end stays", m.told(5), 1);
        Tester.due("the steps stay", m.steps(), 1);
        Tester.due("no run can be", m.run(1), -1);
        Tester.due("nor of 0 steps", m.run(0), -1);
        Tester.due("load", Tester.load(m, START), 0);
        Tester.due("the place", m.register(37), 0);
        Tester.due("no end", m.told(5), 0);
        Tester.due("no steps", m.steps(), 0);
        Tester.due("a run of 0 steps", m.run(0), 0);
    }
}
