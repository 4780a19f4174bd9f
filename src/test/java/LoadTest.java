/** Promises 6 (load) and 7 (fault) for files, and 4 FILES of the terms. */
public final class LoadTest {
    private static final int[] START = {6, 0, 0, 0, 0, 0, 0, 0, 0};

    public static void main(String[] args) {
        layAndMove();
        refer();
        faults();
        afterFault();
        begins();
        Tester.finish("LoadTest");
    }

    private static int[] join(int[]... parts) {
        int length = 0;
        for (int[] part : parts) {
            length += part.length;
        }
        int[] all = new int[length];
        int at = 0;
        for (int[] part : parts) {
            System.arraycopy(part, 0, all, at, part.length);
            at += part.length;
        }
        return all;
    }

    private static int[] record(int kind, long number) {
        int[] bytes = new int[9];
        bytes[0] = kind;
        for (int i = 1; i <= 8; i++) {
            bytes[i] = (int) (number >>> 64 - 8 * i) & 255;
        }
        return bytes;
    }

    private static int[] lay(int n) {
        int[] bytes = new int[2 + n];
        bytes[0] = 2;
        bytes[1] = n;
        for (int i = 0; i < n; i++) {
            bytes[2 + i] = i + 1;
        }
        return bytes;
    }

    private static void fault(int number, int place, int[]... parts) {
        PagedMachine m = new PagedMachine();
        String what = "load with the fault " + number + " at " + place;
        Tester.due(what, Tester.load(m, join(parts)), -1);
        Tester.due(what + ", its number", m.fault(0), number);
        Tester.due(what + ", its place", m.fault(1), place);
        Tester.due(what + ", loaded", m.told(6), 0);
        Tester.due(what + ", run", m.run(1), -1);
    }

    private static PagedMachine right(int[]... parts) {
        PagedMachine m = new PagedMachine();
        Tester.due("load", Tester.load(m, join(parts)), 0);
        Tester.due("fault(0)", m.fault(0), 0);
        Tester.due("fault(1)", m.fault(1), -1);
        Tester.due("fault(2)", m.fault(2), 0);
        Tester.due("loaded", m.told(6), 1);
        return m;
    }

    private static void layAndMove() {
        PagedMachine m = right(lay(3), lay(2), record(1, 65533), lay(3), record(1, 65536),
                record(1, 8), lay(255), START);
        Tester.due("octa(0)", m.octa(0), 0x0102030102000000L);
        Tester.due("octa(65528)", m.octa(65528), 0x0000000000010203L);
        Tester.due("octa(8)", m.octa(8), 0x0102030405060708L);
        Tester.due("octa(256)", m.octa(256), 0xF9FAFBFCFDFEFF00L);
        m = right(record(6, 65536));
        Tester.due("a run at 65536", m.run(1), 4);
        m = right(record(6, 2));
        Tester.due("the place is what 6 says", m.register(37), 2);
    }

    private static void refer() {
        PagedMachine m = right(record(1, 4660), record(3, 65528), record(3, 0), START);
        Tester.due("3: octa(65528)", m.octa(65528), 4660);
        Tester.due("3: octa(0)", m.octa(0), 4660);
        m = right(lay(8), record(1, 0), record(4, 4), record(1, 40), record(4, 65532),
                record(5, 0), START);
        Tester.due("5 and 4: octa(0)", m.octa(0), 0x0100000A0506FFFFL);
        Tester.due("4: octa(65528)", m.octa(65528), 0x000000000000C00BL);
        m = right(record(5, 65532), record(1, 65536), record(5, 8), record(4, 12), START);
        Tester.due("5: octa(65528)", m.octa(65528), 0x0000000000FFC001L);
        Tester.due("5 and 4: octa(8)", m.octa(8), 0x00003FFE00003FFDL);
    }

    private static void faults() {
        fault(11, 0);
        fault(11, 9, record(1, 5));
        fault(11, 0, new int[] {1, 0, 0, 0, 0, 0, 0, 0});
        fault(11, 3, lay(1), new int[] {6});
        fault(11, 3, lay(1), new int[] {2});
        fault(11, 3, lay(1), new int[] {2, 3, 1, 1});
        fault(12, 0, new int[] {0});
        fault(12, 3, lay(1), new int[] {7, 0, 0, 0, 0, 0, 0, 0, 0});
        fault(12, 0, new int[] {255});
        fault(12, 0, new int[] {2, 0}, START);
        fault(12, 0, new int[] {2, 0});
        fault(11, 3, lay(1));
        fault(12, 9, START, new int[] {0});
        fault(12, 9, START, START);
        fault(13, 0, record(1, 65537));
        fault(13, 0, record(1, -1));
        fault(13, 9, record(1, 65536), lay(1), START);
        fault(13, 9, record(1, 65534), lay(3), START);
        fault(11, 9, record(1, 65534), new int[] {2, 3, 1});
        fault(13, 0, record(6, 65537));
        fault(13, 0, record(6, 1L << 32));
        fault(13, 0, record(6, -4), START);
        fault(13, 0, record(3, 65536), START);
        fault(13, 0, record(3, 4), START);
        fault(13, 0, record(3, -8), START);
        fault(13, 0, record(4, 2), START);
        fault(13, 0, record(4, 65536), START);
        fault(13, 0, record(5, 1), START);
        fault(13, 0, record(5, Long.MIN_VALUE), START);
        fault(14, 9, record(1, 2), record(4, 0), START);
        fault(14, 9, record(1, 3), record(5, 8), START);
        fault(13, 9, record(1, 2), record(4, 2), START);
    }

    /** The records ahead of the fault have been done, on a memory of zeros. */
    private static void afterFault() {
        PagedMachine m = Tester.ran(" SETL $1,#4000| STO $1,$1| SETL $31,7| TRAP 0", 1);
        Tester.due("load", Tester.load(m, join(record(1, 8192), lay(4), new int[] {9})), -1);
        Tester.due("place", m.fault(1), 15);
        Tester.due("octa(0)", m.octa(0), 0);
        Tester.due("octa(#4000)", m.octa(0x4000), 0);
        Tester.due("octa(8192)", m.octa(8192), 0x0102030400000000L);
        Tester.due("faults", m.told(0), 0);
        Tester.due("misses", m.told(3), 0);
        Tester.due("page(0)", m.page(0), -1);
        Tester.due("run", m.run(1), -1);
        Tester.due("the registers stay", m.register(31), 7);
        Tester.due("the steps stay", m.steps(), 4);
        Tester.due("load", Tester.load(m, START), 0);
        Tester.due("octa(8192)", m.octa(8192), 0);
        Tester.due("fault(0)", m.fault(0), 0);
        Tester.due("fault(1)", m.fault(1), -1);
        Tester.due("the registers are empty", m.register(31), 0);
        Tester.due("told(5)", m.told(5), 0);
    }

    /** Pages where something was laid, or went, come from the disk; others do not. */
    private static void begins() {
        PagedMachine m = right(record(3, 64), lay(8), record(1, 128), record(6, 0));
        Tester.due("an op that is none", m.run(1), 3);
        Tester.due("page 0 was on the disk", m.told(1), 1);
        m = right(record(3, 64), record(6, 64));
        Tester.due("TRAP 0 where zeros went", m.run(1), 1);
        Tester.due("page 1 was on the disk", m.told(1), 1);
        m = right(record(3, 64), record(6, 128));
        Tester.due("TRAP 0 where nothing is", m.run(1), 1);
        Tester.due("page 2 was not on the disk", m.told(1), 0);
        Tester.due("but it came", m.told(0), 1);
    }
}
