/** Promises 9 to 14 at the edges of 1 THE MACHINE: one method for each sentence that names one. */
public final class MachineEdgeTest {
    private static final long MIN = Long.MIN_VALUE;
    private static final long MAX = Long.MAX_VALUE;

    public static void main(String[] args) {
        memoryEnds();
        numbersLie();
        placeOfAnInstruction();
        offsetsOfSixteen();
        offsetsOfTwentyFour();
        evenAndOdd();
        divides();
        dividesLong();
        shifts();
        negates();
        loadsSigns();
        storesLowest();
        addressesWrap();
        placesWrap();
        branchesAtZero();
        sets();
        getsAndPuts();
        putsLength();
        swymDoesNothing();
        trapFields();
        putsNothing();
        putsUpToThousand();
        putsUpToTheEnd();
        takesUpToLimit();
        takesUpToTheEnd();
        ownAddresses();
        addressesOfData();
        fieldsThatDoNotMatter();
        endsInOrder();
        endsDoNothing();
        stepsOfEnds();
        Tester.finish("MachineEdgeTest");
    }

    private static String octa(long value) {
        return "#" + Long.toHexString(value);
    }

    /** Does one line with $20 = y and $21 = z. */
    private static PagedMachine with(long y, long z, String line) {
        return Tester.ran("Y OCTA " + octa(y) + "|Z OCTA " + octa(z) + "|Main LDO $20,$16,Y| LDO $21,$16,Z|" + line
                + "| TRAP 0", 1);
    }

    private static void result(long y, long z, String name, long want) {
        String what = name + " of " + y + " and " + z;
        Tester.due(what, with(y, z, " " + name + " $22,$20,$21").register(22), want);
        if (z >= 0 && z < 256) {
            Tester.due(what + ", the odd op", with(y, 77, " " + name + " $22,$20," + z).register(22), want);
        }
    }

    /** One word at 0, as the first INSTRUCTION of a run; answers the machine behind one step. */
    private static PagedMachine step(String head, long word, int end) {
        String lines = head + " TETRA " + word;
        PagedMachine m = Tester.assembled(lines);
        int ahead = (int) head.chars().filter(c -> c == '|').count();
        Tester.due("run up to the last of " + lines, m.run(ahead), 0);
        Tester.due("the end of " + lines, m.run(1), end);
        return m;
    }

    /** "MEMORY: bytes at addresses 0 to 65535, all 0 at first." */
    private static void memoryEnds() {
        PagedMachine m = new PagedMachine();
        for (int address = 0; address < 65536; address += 200) {
            Tester.due("octa(" + address + ") at first", m.octa(address), 0);
        }
        m = Tester.ran(" LOC 64|Main SETL $1,171| SETL $2,65535| STB $1,$16| STB $1,$2| LDBU $3,$16| LDBU $4,$2"
                + "| TRAP 0", 1);
        Tester.due("$3, from 0", m.register(3), 171);
        Tester.due("$4, from 65535", m.register(4), 171);
        Tester.due("octa(0)", m.octa(0), 171L << 56);
        Tester.due("octa(7)", m.octa(7), 171L << 56);
        Tester.due("octa(8)", m.octa(8), 0);
        Tester.due("octa(65528)", m.octa(65528), 171);
        Tester.due("octa(65535)", m.octa(65535), 171);
        Tester.due("octa(65527)", m.octa(65527), 0);
        Tester.due("octa(65536)", m.octa(65536), 0);
        Tester.due("octa(131071)", m.octa(131071), 0);
        Tester.due("octa(-1)", m.octa(-1), 0);
        Tester.due("octa(-8)", m.octa(-8), 0);
    }

    /** "lie where the address, its lowest 1, 2, 3 bits made 0, says", the highest byte first. */
    private static void numbersLie() {
        for (int k = 0; k < 16; k++) {
            String data = "| TRAP 0| LOC 64| OCTA #1112131415161718,#2122232425262728";
            String head = " SETMH $1,#A1A2| INCML $1,#A3A4| INCL $1,#A5A6| SETL $2," + (64 + k) + "|";
            PagedMachine m = Tester.ran(head + " LDT $3,$2| LDO $4,$2| LDBU $5,$2" + data, 1);
            long tetra = 0x11121314L + (k / 8) * 0x10101010L + (k / 4 % 2) * 0x04040404L;
            Tester.due("LDT at 64 + " + k, m.register(3), tetra);
            Tester.due("LDO at 64 + " + k, m.register(4), k < 8 ? 0x1112131415161718L : 0x2122232425262728L);
            Tester.due("LDBU at 64 + " + k, m.register(5), (k < 8 ? 0x11 : 0x21) + k % 8);
            m = Tester.ran(head + " STO $1,$2" + data, 1);
            Tester.due("STO at 64 + " + k, m.octa(64 + k), 0x0000A1A2A3A4A5A6L);
            Tester.due("beside it", m.octa(64 + (k ^ 8)), k < 8 ? 0x2122232425262728L : 0x1112131415161718L);
            m = Tester.ran(head + " STT $1,$2" + data, 1);
            long old = k < 8 ? 0x1112131415161718L : 0x2122232425262728L;
            long put = k % 8 < 4 ? 0xA3A4A5A600000000L | old & 0xFFFFFFFFL : 0xA3A4A5A6L | old & -1L << 32;
            Tester.due("STT at 64 + " + k, m.octa(64 + k), put);
        }
    }

    /** "W is the address of the INSTRUCTION (THE PLACE, its lowest 2 bits made 0)"; "THE PLACE becomes W + 4". */
    private static void placeOfAnInstruction() {
        String[] lines = {"SWYM", "GETA $1,@", "JMP @+8", "PUSHJ $0,@+8", "GO $1,$2,3", "BZ $1,@-4"};
        long[] places = {12, 12, 16, 16, 3, 4};
        for (int i = 0; i < lines.length; i++) {
            for (int low = 0; low < 4; low++) {
                PagedMachine m = Tester.assembled(" LOC " + (8 + low) + "|Main| LOC 8| " + lines[i]);
                Tester.due("THE PLACE", m.register(37), 8 + low);
                Tester.due("run of " + lines[i], m.run(1), 0);
                Tester.due("THE PLACE behind " + lines[i], m.register(37), places[i]);
                Tester.due("$1 behind " + lines[i], m.register(1), i == 1 ? 8 : i == 4 ? 12 : 0);
                Tester.due("rJ behind " + lines[i], m.register(35), i == 3 ? 12 : 0);
            }
        }
    }

    /** "with sign where an offset is told (YZ from 32768 on less 65536 ..)". */
    private static void offsetsOfSixteen() {
        int[] fields = {0, 1, 32767, 32768, 32769, 65535};
        for (int field : fields) {
            long target = 4 + 4L * (field < 32768 ? field : field - 65536);
            for (int op = 60; op <= 69; op++) {
                boolean goes = op == 61 || op == 63 || op == 65 || op == 67;
                if (op != 66 && op != 68) {
                    PagedMachine m = step(" SWYM|", (long) op << 24 | field, 0);
                    Tester.due("THE PLACE behind op " + op, m.register(37), goes ? target : 8);
                    Tester.due("$0 behind op " + op, m.register(0), op == 69 ? target : 0);
                }
            }
        }
    }

    /** "XYZ from 8388608 on less 16777216". */
    private static void offsetsOfTwentyFour() {
        int[] fields = {0, 1, 65535, 65536, 8388607, 8388608, 8388609, 16777215};
        for (int field : fields) {
            PagedMachine m = step(" SWYM|", 66L << 24 | field, 0);
            long target = 4 + 4L * (field < 8388608 ? field : field - 16777216);
            Tester.due("THE PLACE behind a JMP of " + field, m.register(37), target);
        }
    }

    /** "z is $Z for an even op below 56, the number Z for an odd one". */
    private static void evenAndOdd() {
        for (int op = 2; op < 54; op += op == 32 ? 4 : 2) {
            String head = " SETL $1,9| SETL $2,100| SETL $3,200| PUT 0,$1| SETL $31,200| SETL $0,0|";
            PagedMachine even = step(head, (long) op << 24 | 0x040203, 0);
            PagedMachine odd = step(head, (long) op + 1 << 24 | 0x0402C8, 0);
            for (int k = 0; k <= 38; k++) {
                Tester.due("register(" + k + ") behind op " + op, odd.register(k), even.register(k));
            }
            Tester.due("octa(296) behind op " + op, odd.octa(296), even.octa(296));
            PagedMachine other = step(head, (long) op << 24 | 0x04021F, 0);
            Tester.due("$4 behind op " + op + " with $31", other.register(4), even.register(4));
        }
    }

    /** "DIV x = y by z, rounded down, rR what is left (0 and y, if z is 0)". */
    private static void divides() {
        long[][] dues = {
            {7, 2, 3, 1}, {-7, 2, -4, 1}, {7, -2, -4, -1}, {-7, -2, 3, -1}, {6, 3, 2, 0}, {-6, 3, -2, 0}, {1, 2, 0, 1},
            {-1, 2, -1, 1}, {1, -2, -1, -1}, {0, 5, 0, 0}, {5, 0, 0, 5}, {-5, 0, 0, -5}, {0, 0, 0, 0},
            {MIN, -1, MIN, 0}, {MIN, 0, 0, MIN}, {MIN, 1, MIN, 0}, {MAX, -1, -MAX, 0}, {MIN, MAX, -2, MAX - 1},
            {MAX, MIN, -1, -1},
            {MIN, MIN, 1, 0}
        };
        for (long[] due : dues) {
            result(due[0], due[1], "DIV", due[2]);
            PagedMachine m = with(due[0], due[1], " DIV $22,$20,$21");
            Tester.due("rR of " + due[0] + " by " + due[1], m.register(34), due[3]);
        }
    }

    /** "if z is 0 or not above rD, U: x = rD, rR = y". */
    private static void dividesLong() {
        long[][] dues = {
            {0, 9, 0, 0, 9}, {5, 9, 0, 5, 9}, {5, 9, 5, 5, 9}, {5, 9, 4, 5, 9}, {-1, 9, -1, -1, 9}, {-1, 9, MAX, -1, 9},
            {0, -1, 1, -1, 0}, {0, -1, -1, 1, 0}, {0, -2, -1, 0, -2}, {1, 0, 2, MIN, 0}, {-2, -1, -1, -1, -2},
            {MAX, -1, MIN, -1, MAX}, {0, 100, 7, 14, 2}, {6, 9, 7, -2635249153387078801L, 0}
        };
        for (long[] due : dues) {
            PagedMachine m = Tester.ran("D OCTA " + octa(due[0]) + "|Y OCTA " + octa(due[1]) + "|Z OCTA " + octa(due[2])
                    + "|Main LDO $20,$16,D| PUT 0,$20| LDO $20,$16,Y| LDO $21,$16,Z| DIVU $22,$20,$21| TRAP 0", 1);
            String what = " of " + due[0] + ", " + due[1] + " by " + due[2];
            Tester.due("DIVU" + what, m.register(22), due[3]);
            Tester.due("rR of DIVU" + what, m.register(34), due[4]);
            Tester.due("rD stays" + what, m.register(32), due[0]);
        }
    }

    /** "(by 64 bits and more, U: 0, SR: 0 or -1)". */
    private static void shifts() {
        long[] far = {64, 65, 127, 128, 255, 256, 1L << 32, MAX, MIN, -1, -64};
        for (long z : far) {
            result(-1, z, "SL", 0);
            result(-1, z, "SRU", 0);
            result(-1, z, "SR", -1);
            result(MIN, z, "SR", -1);
            result(MAX, z, "SR", 0);
            result(0, z, "SR", 0);
        }
        result(1, 63, "SL", MIN);
        result(3, 63, "SL", MIN);
        result(1, 62, "SL", 1L << 62);
        result(MIN, 63, "SRU", 1);
        result(MIN, 62, "SRU", 2);
        result(MIN, 63, "SR", -1);
        result(MIN, 62, "SR", -2);
        result(MAX, 62, "SR", 1);
        result(MAX, 63, "SR", 0);
        result(-5, 0, "SL", -5);
        result(-5, 0, "SR", -5);
        result(-5, 0, "SRU", -5);
    }

    /** "NEG x = the number Y less z", wrapping. */
    private static void negates() {
        Tester.due("0 less 0", with(0, 0, " NEG $22,0,$21").register(22), 0);
        Tester.due("0 less the least", with(0, MIN, " NEG $22,0,$21").register(22), MIN);
        Tester.due("255 less the least", with(0, MIN, " NEG $22,255,$21").register(22), MIN + 255);
        Tester.due("255 less the greatest", with(0, MAX, " NEG $22,255,$21").register(22), 255 - MAX);
        Tester.due("0 less 255", with(0, 0, " NEG $22,0,255").register(22), -255);
        Tester.due("255 less 0", with(0, 0, " NEG $22,255,0").register(22), 255);
        Tester.due("255 less 255", with(0, 0, " NEG $22,255,255").register(22), 0);
        Tester.due("Y is a number above $31 too", step("", 0x2016FF05L, 0).register(22), 255);
    }

    /** "LDB .. with sign. LDBU without. LDT four bytes, with sign." */
    private static void loadsSigns() {
        long[] octas = {0x7F80FF0000000000L, 0x7FFFFFFF80000000L};
        long[][] bytes = {{0, 127, 127}, {1, -128, 128}, {2, -1, 255}, {3, 0, 0}};
        for (long[] due : bytes) {
            Tester.due("LDB", with(octas[0], 0, " LDB $22,$16," + due[0]).register(22), due[1]);
            Tester.due("LDBU", with(octas[0], 0, " LDBU $22,$16," + due[0]).register(22), due[2]);
        }
        Tester.due("LDT", with(octas[1], 0, " LDT $22,$16").register(22), 0x7FFFFFFF);
        Tester.due("LDT", with(octas[1], 0, " LDT $22,$16,4").register(22), -0x80000000L);
        Tester.due("LDT", with(-1, 0, " LDT $22,$16,4").register(22), -1);
        Tester.due("LDO", with(MIN, 0, " LDO $22,$16,0").register(22), MIN);
    }

    /** "STB the lowest byte of x goes there, STT the lowest four, STO all eight". */
    private static void storesLowest() {
        long value = 0x8192A3B4C5D6E7F8L;
        Tester.due("STB", with(value, -1, " STB $20,$16,8").octa(8), 0xF8FFFFFFFFFFFFFFL);
        Tester.due("STT", with(value, -1, " STT $20,$16,8").octa(8), 0xC5D6E7F8FFFFFFFFL);
        Tester.due("STO", with(value, -1, " STO $20,$16,8").octa(8), value);
        Tester.due("STB", with(256, -1, " STB $20,$16,15").octa(8), 0xFFFFFFFFFFFFFF00L);
        Tester.due("STT", with(1L << 32, -1, " STT $20,$16,15").octa(8), 0xFFFFFFFF00000000L);
        Tester.due("STB of a MARGINAL one", with(0, -1, " STB $15,$16,8").octa(8), 0x00FFFFFFFFFFFFFFL);
    }

    /** "All numbers are longs and wrap": y + z of an address, of LDA and of GO. */
    private static void addressesWrap() {
        long[][] sums = {{-1, 1}, {1, -1}, {MIN, MIN}, {MAX, MIN + 1}, {MAX, -MAX}, {-255, 255}};
        for (long[] sum : sums) {
            Tester.due("LDBU at 0", with(sum[0], sum[1], " LDBU $22,$20,$21").register(22), sum[0] >>> 56);
            Tester.due("STO at 0", with(sum[0], sum[1], " STO $21,$20,$21").octa(0), sum[1]);
        }
        result(MAX, 1, "LDA", MIN);
        result(MIN, -1, "LDA", MAX);
        result(-1, 1, "LDA", 0);
        result(-1, 255, "LDA", 254);
        result(MAX, 1, "ADD", MIN);
        result(MIN, 1, "SUB", MAX);
        result(0, MIN, "SUB", MIN);
        result(MAX, MAX, "MUL", 1);
        result(MIN, -1, "MUL", MIN);
        result(MIN, 2, "MUL", 0);
        result(MAX, 1, "CMP", 1);
        result(MIN, 1, "CMP", -1);
        result(MIN, MAX, "CMPU", 1);
        result(1, -1, "CMPU", -1);
        result(-1, -1, "CMPU", 0);
        Tester.due("INCL", with(-1, 0, " INCL $20,1").register(20), 0);
        Tester.due("INCH", with(-1, 0, " INCH $20,1").register(20), (1L << 48) - 1);
        Tester.due("INCH", with(MAX, 0, " INCH $20,#8000").register(20), -1);
    }

    /** THE PLACE of GO and POP wraps too, and is asked for only when an INSTRUCTION is to be done there. */
    private static void placesWrap() {
        PagedMachine m = Tester.assembled(" SETH $1,#7FFF| INCMH $1,#FFFF| INCML $1,#FFFF| INCL $1,#FFFF| GO $2,$1,1");
        Tester.due("run", m.run(5), 0);
        Tester.due("GO to 2^63", m.register(37), MIN);
        Tester.due("run", m.run(1), 4);
        Tester.due("steps", m.steps(), 5);
        m = Tester.assembled(" PUSHJ $0,@+4| SETH $20,#7FFF| INCMH $20,#FFFF| INCML $20,#FFFF| INCL $20,#FFFD"
                + "| PUT 3,$20| POP 0,1");
        Tester.due("run", m.run(7), 0);
        Tester.due("POP to 2^63 + 1", m.register(37), MIN + 1);
        Tester.due("run", m.run(1), 4);
        m = Tester.assembled(" PUSHJ $0,@+4| NEG $20,0,4| PUT 3,$20| POP 0,1");
        Tester.due("run", m.run(4), 0);
        Tester.due("POP to 0 from below", m.register(37), 0);
        Tester.due("run", m.run(1), 0);
    }

    /** "if x is below 0, 0, above 0, not below, not 0, not above 0". */
    private static void branchesAtZero() {
        long[] values = {MIN, -1, 0, 1, MAX};
        String[] names = {"BN", "BZ", "BP", "BNN", "BNZ", "BNP"};
        for (long value : values) {
            boolean[] goes = {value < 0, value == 0, value > 0, value >= 0, value != 0, value <= 0};
            for (int i = 0; i < 6; i++) {
                PagedMachine m = with(value, 0, " " + names[i] + " $20,@+8| SETL $22,1");
                Tester.due(names[i] + " of " + value, m.register(22), goes[i] ? 0 : 1);
            }
        }
        PagedMachine m = Tester.ran(" BZ $15,@+8| SWYM| TRAP 0", 1);
        Tester.due("a MARGINAL one is 0, and stays MARGINAL", m.register(36), 0);
        Tester.due("steps", m.steps(), 2);
    }

    /** "SETL .. x = YZ, times 1, 2^16, 2^32, 2^48. INCL .. x + that." */
    private static void sets() {
        String[] units = {"L", "ML", "MH", "H"};
        for (int i = 0; i < 4; i++) {
            long top = 65535L << 16 * i;
            Tester.due("SET" + units[i], with(-1, 0, " SET" + units[i] + " $20,65535").register(20), top);
            Tester.due("SET" + units[i], with(-1, 0, " SET" + units[i] + " $20,32768").register(20), 32768L << 16 * i);
            Tester.due("SET" + units[i], with(-1, 0, " SET" + units[i] + " $20,0").register(20), 0);
            Tester.due("INC" + units[i], with(-1, 0, " INC" + units[i] + " $20,65535").register(20), top - 1);
            Tester.due("INC" + units[i], with(-1, 0, " INC" + units[i] + " $20,0").register(20), -1);
        }
    }

    /** "SPECIAL registers: 0 rD, 1 rH, 2 rR, 3 rJ, 4 rL"; "a SPECIAL above 4". */
    private static void getsAndPuts() {
        for (int k = 0; k < 4; k++) {
            PagedMachine m = Tester.ran(" NEG $20,0,5| PUT " + k + ",$20| GET $21," + k + "| TRAP 0", 1);
            Tester.due("GET " + k, m.register(21), -5);
            for (int other = 0; other < 5; other++) {
                Tester.due("special " + other, m.register(32 + other), other == k ? -5 : 0);
            }
        }
        int[] wrongs = {5, 6, 31, 255};
        for (int k : wrongs) {
            step("", 0x4E140000L | k, 3);
            step("", 0x4F000014L | k << 16, 3);
        }
        Tester.due("GET 4", step("", 0x4E140004L, 0).register(20), 0);
        step("", 0x4F040014L, 0);
    }

    /** "of rL: the lesser one of it and $Z, U". */
    private static void putsLength() {
        long[][] dues = {{0, 0}, {1, 1}, {4, 4}, {5, 5}, {6, 5}, {16, 5}, {-1, 5}, {MIN, 5}, {1L << 32, 5}, {MAX, 5}};
        for (long[] due : dues) {
            PagedMachine m = with(due[0], 0, " SETL $4,7| SETL $3,6| PUT 4,$20");
            Tester.due("rL behind PUT of " + due[0], m.register(36), due[1]);
            Tester.due("$4 behind PUT of " + due[0], m.register(4), due[1] == 5 ? 7 : 0);
            Tester.due("$3 behind PUT of " + due[0], m.register(3), due[1] >= 4 ? 6 : 0);
        }
    }

    /** "SWYM: nothing", whatever stands in its fields. */
    private static void swymDoesNothing() {
        for (int x = 0; x < 256; x += x < 5 ? 1 : 50) {
            PagedMachine m = step(" SETL $20,9| SETL $2,3|", 0x50000014L | x << 16, 0);
            Tester.due("THE PLACE", m.register(37), 12);
            for (int k = 0; k <= 36; k++) {
                Tester.due("register(" + k + ") behind SWYM", m.register(k), k == 20 ? 9 : k == 2 || k == 36 ? 3 : 0);
            }
        }
    }

    /** "TRAP, by Z (X and Y do not matter)"; "Others: END 6". */
    private static void trapFields() {
        int[] fields = {0, 0x010000, 0x000100, 0x202000, 0xFFFF00};
        for (int field : fields) {
            step("", field, 1);
            step(" SETL $31,#4000|", field | 1, 0);
            Tester.due("$31 behind TRAP 2", step(" SETL $30,5|", field | 2, 0).register(31), -1);
            step("", field | 3, 6);
            step("", field | 128, 6);
            step("", field | 255, 6);
        }
    }

    /** "up to the first 0, which is not". */
    private static void putsNothing() {
        PagedMachine m = Tester.ran(" SETL $31,#4000| TRAP 1| TRAP 0", 1);
        Tester.due("outs of an empty text", m.outs(), 0);
        Tester.due("the 0 was read", m.told(0), 2);
        Tester.due("$31 stays", m.register(31), 0x4000);
        m = Tester.ran(" SETL $31,64| TRAP 1| TRAP 0| LOC 64| BYTE 255,1,0,65", 1);
        Tester.due("outs", m.outs(), 2);
        Tester.due("out(0)", m.out(0), 255);
        Tester.due("out(1)", m.out(1), 1);
        Tester.due("out(2)", m.out(2), -1);
    }

    /** Puts 125 texts of eight bytes OUT, then one of so many more. */
    private static PagedMachine puts(int more, int end) {
        return Tester.ran("S BYTE \"abcdefgh\",0|T BYTE \"12345678\",0|Main SETL $1,125|A SETL $31,S| TRAP 1"
                + "| SUB $1,$1,1| BP $1,A| SETL $31,T+" + (8 - more) + "| TRAP 1| TRAP 0", end);
    }

    /** "7 more than 1000 bytes are OUT." */
    private static void putsUpToThousand() {
        PagedMachine m = puts(0, 1);
        Tester.due("1000 are OUT", m.outs(), 1000);
        Tester.due("the first", m.out(0), 'a');
        Tester.due("the last", m.out(999), 'h');
        Tester.due("none behind", m.out(1000), -1);
        Tester.due("steps", m.steps(), 1 + 125 * 4 + 3);
        for (int more = 1; more <= 8; more += 7) {
            m = puts(more, 7);
            Tester.due("told(5)", m.told(5), 7);
            Tester.due("1000 stay OUT", m.outs(), 1000);
            Tester.due("the last", m.out(999), 'h');
            Tester.due("none behind", m.out(1000), -1);
            Tester.due("no step", m.steps(), 1 + 125 * 4 + 1);
            Tester.due("THE PLACE stays", m.register(37), 44);
            Tester.due("it has ended", m.run(9), 7);
        }
    }

    /** "4 an address that is not 0 to 65535 (.. of what is read or written)"; "What TRAP 1 or 2 has done .. stays". */
    private static void putsUpToTheEnd() {
        String data = "| LOC 65534| BYTE 65,66";
        PagedMachine m = Tester.ran(" SETL $31,65534| TRAP 1" + data, 4);
        Tester.dueText("OUT", Tester.out(m), "AB");
        Tester.due("steps", m.steps(), 1);
        Tester.due("THE PLACE", m.register(37), 4);
        m = Tester.ran(" SETL $31,65534| TRAP 1| TRAP 0| LOC 65534| BYTE 65,0", 1);
        Tester.dueText("OUT", Tester.out(m), "A");
        m = Tester.ran(" SETL $31,65535| TRAP 1| TRAP 0", 1);
        Tester.due("a 0 at 65535", m.outs(), 0);
        Tester.ran(" SETML $31,1| TRAP 1", 4);
        Tester.ran(" NEG $31,0,1| TRAP 1", 4);
        Tester.ran(" SETH $31,#8000| TRAP 1", 4);
        Tester.ran(" SETMH $31,1| TRAP 1", 4);
    }

    private static PagedMachine takes(String input, String limit, String address, int end) {
        PagedMachine m = Tester.assembled(limit + "|" + address + "| TRAP 2| TRAP 0| LOC 128| OCTA 0-1,0-1");
        Tester.input(m, input);
        Tester.due("run with " + limit + address, m.run(9), end);
        return m;
    }

    private static void took(String input, String limit, long count, long octa, int left) {
        PagedMachine m = takes(input, limit, " SETL $31,128", 1);
        String what = " of " + input + " with" + limit;
        Tester.due("$31" + what, m.register(31), count);
        Tester.due("octa" + what, m.octa(128), octa);
        Tester.due("the octa behind" + what, m.octa(136), -1);
        Tester.due("left" + what, m.told(7), left);
        Tester.due("pages" + what, m.told(0), count < 0 ? 1 : 2);
    }

    /** "up to 10 (with it), $30 less 1 of them at most .. then a 0"; "-1 if the INPUT was at its end .." */
    private static void takesUpToLimit() {
        took("abcd\nef", " NEG $30,0,1", -1, -1, 7);
        took("abcd\nef", " SETH $30,#8000", -1, -1, 7);
        took("abcd\nef", " SETL $30,0", -1, -1, 7);
        took("abcd\nef", " SETL $30,1", 0, 0x00FFFFFFFFFFFFFFL, 7);
        took("abcd\nef", " SETL $30,2", 1, 0x6100FFFFFFFFFFFFL, 6);
        took("abcd\nef", " SETL $30,5", 4, 0x6162636400FFFFFFL, 3);
        took("abcd\nef", " SETL $30,6", 5, 0x616263640A00FFFFL, 2);
        took("abcd\nef", " SETL $30,7", 5, 0x616263640A00FFFFL, 2);
        took("abcd\nef", " SETH $30,#7FFF", 5, 0x616263640A00FFFFL, 2);
        took("\n", " SETL $30,2", 1, 0x0A00FFFFFFFFFFFFL, 0);
        took("a", " SETL $30,9", 1, 0x6100FFFFFFFFFFFFL, 0);
        took("a", " SETL $30,1", 0, 0x00FFFFFFFFFFFFFFL, 1);
        took("", " SETL $30,1", -1, -1, 0);
        took("", " SETL $30,0", -1, -1, 0);
        took("", " SETL $30,9", -1, -1, 0);
        took("\0\u00FF", " SETL $30,9", 2, 0x00FF00FFFFFFFFFFL, 0);
    }

    private static void takesUpToTheEnd() {
        PagedMachine m = takes("ab\n", " SETL $30,9", " SETL $31,65532", 1);
        Tester.due("the last four", m.octa(65528), 0x61620A00L);
        Tester.due("$31", m.register(31), 3);
        m = takes("ab\n", " SETL $30,9", " SETL $31,65533", 4);
        Tester.due("no room for the 0", m.octa(65528), 0x61620AL);
        Tester.due("$31 stays", m.register(31), 65533);
        Tester.due("the line is gone", m.told(7), 0);
        Tester.due("steps", m.steps(), 2);
        Tester.due("THE PLACE", m.register(37), 8);
        m = takes("ab\n", " SETL $30,1", " SETL $31,65535", 1);
        Tester.due("a 0 at 65535", m.register(31), 0);
        m = takes("ab\n", " SETL $30,1", " SETML $31,1", 4);
        Tester.due("nothing was taken", m.told(7), 3);
        takes("", " SETL $30,1", " SETML $31,1", 1);
        takes("ab\n", " SETL $30,0", " SETML $31,1", 1);
        takes("ab\n", " SETL $30,2", " NEG $31,0,1", 4);
    }

    /** "4 an address that is not 0 to 65535 (of an INSTRUCTION, also its PLACE ..)". */
    private static void ownAddresses() {
        String[] far = {" SETML $1,1", " NEG $1,0,1", " NEG $1,0,4", " SETH $1,#8000", " SETMH $1,1", " SETH $1,#7FFF"};
        for (String line : far) {
            PagedMachine m = Tester.ran(line + "| GO $2,$1", 4);
            Tester.due("steps", m.steps(), 2);
            Tester.due("THE PLACE stays there", m.register(37), m.register(1));
            Tester.due("nothing is touched there", m.told(0), 1);
            Tester.due("the next run", m.run(1), 4);
        }
        for (int place = 65532; place <= 65535; place++) {
            PagedMachine m = Tester.ran(" SETL $1," + place + "| GO $2,$1", 1);
            Tester.due("TRAP 0 at " + place, m.register(37), 65536);
            Tester.due("steps", m.steps(), 3);
            Tester.due("its page came", m.page(1), 1023);
        }
        PagedMachine m = Tester.ran(" LOC 65532|Main SETL $1,5", 4);
        Tester.due("one step behind the last", m.register(1), 5);
        Tester.due("steps", m.steps(), 1);
    }

    private static void addressesOfData() {
        for (int op = 36; op < 50; op++) {
            long word = (long) op << 24 | 0x020100;
            step(" SETML $1,1|", word, 4);
            step(" NEG $1,0,1|", word, 4);
            step(" SETH $1,#8000|", word, 4);
            step(" SETMH $1,1|", word, 4);
            step(" SETL $1,65535|", word, 0);
            step("", word, 0);
        }
    }

    /** "(fields that are not told with an op do not matter)". */
    private static void fieldsThatDoNotMatter() {
        step("", 0x4E14FF00L, 0);
        step("", 0x4E142000L, 0);
        step("", 0x4F00FF14L, 0);
        step("", 0x4F002014L, 0);
        step("", 0x50202020L, 0);
        step("", 0x50FFFFFFL, 0);
        step("", 0x00FFFF00L, 1);
        step("", 0x20142014L, 0);
        step("", 0x2114FFFFL, 0);
        step("", 0x0714FFFFL, 3);
        step("", 0x07141FFFL, 0);
        step("", 0x061414FFL, 3);
        step(" PUSHJ $0,@+4|", 0x44FF0000L, 0);
        step(" PUSHJ $0,@+4|", 0x4420FFFFL, 0);
    }

    /** "Of several the first in this order: its own address, op, registers, SPECIAL, 5 and 8, address ..". */
    private static void endsInOrder() {
        full(0x01FFFFFFL, 3);
        full(0x51FFFFFFL, 3);
        full(0x24032014L, 3);
        full(0x24202014L, 3);
        full(0x4E030005L, 3);
        full(0x4E200005L, 3);
        full(0x24031400L, 5);
        full(0x25031400L, 5);
        full(0x24021400L, 4);
        full(0x24141400L, 4);
        full(0x2A031400L, 5);
        full(0x30031400L, 4);
        full(0x30201400L, 3);
        full(0x43030000L, 5);
        step("", 0x44000000L, 8);
        step("", 0x44FFFFFFL, 8);
        step(" SETL $2,1|", 0x44200000L, 8);
        step(" NEG $20,0,1|", 0x2414141FL, 4);
        step(" NEG $20,0,1|", 0x24141420L, 3);
        step(" NEG $20,0,1|", 0x24201400L, 3);
    }

    /** One word with 597 numbers on THE STACK, no LOCAL register and -1 in $20. */
    private static void full(long word, int end) {
        PagedMachine m = StackTest.full(" NEG $20,0,1| TETRA " + word, end);
        Tester.due("steps", m.steps(), 599);
        Tester.due("depth", m.register(38), 597);
        Tester.due("rL", m.register(36), 0);
    }

    private static final long[][] ENDING = {
        {0x01000000L, 3}, {0x06200000L, 3}, {0x4E160009L, 3}, {0x4F090016L, 3}, {0x24161500L, 4}, {0x30161500L, 4},
        {0x2A001500L, 4}, {0x00000003L, 6}, {0x44010001L, 8}, {0x000000FFL, 6}, {0x52160000L, 3}, {0x35162000L, 3}
    };

    /** "else an INSTRUCTION that ends the run by 3 to 8 does nothing (but TOUCH), and it is no step". */
    private static void endsDoNothing() {
        for (long[] ending : ENDING) {
            String head = " SETL $1,5| NEG $21,0,1| SETL $22,8| PUT 0,$22| PUT 2,$22| STO $22,$16,#A0| JMP 64|";
            String lines = head + " LOC 64| TETRA " + ending[0];
            PagedMachine m = Tester.assembled(lines);
            Tester.due("run up to it", m.run(7), 0);
            long[] before = new long[39];
            for (int k = 0; k <= 38; k++) {
                before[k] = m.register(k);
            }
            int faults = m.told(0);
            int misses = m.told(3);
            Tester.due("the end of " + lines, m.run(1), ending[1]);
            for (int k = 0; k <= 38; k++) {
                Tester.due("register(" + k + ") behind " + lines, m.register(k), before[k]);
            }
            Tester.due("steps", m.steps(), 7);
            Tester.due("its page came", m.told(0), faults + 1);
            Tester.due("the cache missed it", m.told(3), misses + 1);
            Tester.due("octa(64)", m.octa(64) >>> 32, ending[0]);
            Tester.due("octa(160)", m.octa(160), 8);
            Tester.due("told(5)", m.told(5), ending[1]);
            Tester.due("run(20000)", m.run(20000), ending[1]);
            Tester.due("steps", m.steps(), 7);
        }
    }

    /** TRAP 0 is a step; what ends by 3 to 8 is none, and run answers the END again and again. */
    private static void stepsOfEnds() {
        PagedMachine m = Tester.assembled(" SWYM| TRAP 0");
        Tester.due("run(1)", m.run(1), 0);
        Tester.due("told(5)", m.told(5), 0);
        Tester.due("run(1)", m.run(1), 1);
        Tester.due("steps", m.steps(), 2);
        Tester.due("THE PLACE", m.register(37), 8);
        Tester.due("run(0)", m.run(0), 1);
        Tester.due("run(1)", m.run(1), 1);
        Tester.due("steps", m.steps(), 2);
        m = Tester.assembled(" SWYM| TETRA #FF000000");
        Tester.due("run(1)", m.run(1), 0);
        Tester.due("run(0)", m.run(0), 0);
        Tester.due("run(1)", m.run(1), 3);
        Tester.due("steps", m.steps(), 1);
        Tester.due("THE PLACE", m.register(37), 4);
        Tester.due("run(0)", m.run(0), 3);
    }
}
