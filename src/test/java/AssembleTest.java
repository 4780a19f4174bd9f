/** Promise 5 (assemble) for texts without a fault, and 3 TEXTS of the terms. */
public final class AssembleTest {
    private static final String[] THREE = {
        "MUL", "DIV", "ADD", "SUB", "CMP", "CMPU", "MULU", "DIVU", "AND", "OR", "XOR", "ANDN",
        "SL", "SR", "SRU"
    };
    private static final String[] ACCESS = {
        "LDB", "LDBU", "LDT", "LDO", "STB", "STT", "STO", "LDA", "GO"
    };
    private static final String[] BRANCH = {"BN", "BZ", "BP", "BNN", "BNZ", "BNP"};
    private static final String[] SET = {
        "SETL", "SETML", "SETMH", "SETH", "INCL", "INCML", "INCMH", "INCH"
    };

    public static void main(String[] args) {
        threes();
        others();
        offsets();
        data();
        sums();
        labels();
        ahead();
        lines();
        starts();
        takesNothing();
        takesAnEmptyText();
        pagesOnDisk();
        manyLabels();
        Tester.finish("AssembleTest");
    }

    private static void word(String line, int want) {
        PagedMachine m = Tester.assembled(line);
        Tester.due("word of " + line, m.octa(0) >>> 32, want & 0xFFFFFFFFL);
        Tester.due("word behind " + line, m.octa(0) & 0xFFFFFFFFL, 0);
    }

    private static void octa(String lines, int address, long want) {
        Tester.due("octa " + address + " of " + lines, Tester.assembled(lines).octa(address), want);
    }

    private static void three(String name, int op) {
        word(" " + name + " $1,$2,$31", op << 24 | 0x01021F);
        word(" " + name + " $31,$30,255", op + 1 << 24 | 0x1F1EFF);
        word(" " + name + " $0,$1,0", op + 1 << 24 | 0x000100);
        word(" " + name + " $7,$9", op + 1 << 24 | 0x070900);
    }

    private static void threes() {
        for (int i = 0; i < THREE.length; i++) {
            three(THREE[i], 2 + 2 * i);
        }
        for (int i = 0; i < ACCESS.length; i++) {
            three(ACCESS[i], 36 + 2 * i);
        }
    }

    private static void others() {
        word(" NEG $1,2,$3", 0x20010203);
        word(" NEG $1,255,254", 0x2101FFFE);
        word(" NEG $1,$3", 0x20010003);
        for (int i = 0; i < SET.length; i++) {
            word(" " + SET[i] + " $31,65535", 70 + i << 24 | 0x1FFFFF);
            word(" " + SET[i] + " $0,#102", 70 + i << 24 | 0x000102);
        }
        word(" GET $5,4", 0x4E050004);
        word(" GET $5,255", 0x4E0500FF);
        word(" PUT 4,$6", 0x4F040006);
        word(" PUT 255,$31", 0x4FFF001F);
        word(" POP 255,65535", 0x44FFFFFF);
        word(" POP 3", 0x44030000);
        word(" POP", 0x44000000);
        word(" POP   ", 0x44000000);
        word(" TRAP 1,2,3", 0x00010203);
        word(" TRAP 255", 0x000000FF);
        word(" SWYM", 0x50000000);
        word(" SWYM  ", 0x50000000);
    }

    private static void offsets() {
        for (int i = 0; i < BRANCH.length; i++) {
            word(" " + BRANCH[i] + " $3,8", 60 + i << 24 | 0x030002);
        }
        word(" GETA $3,@", 0x45030000);
        word(" PUSHJ $15,@-4", 0x430FFFFF);
        word(" JMP @-4", 0x42FFFFFF);
        word(" BZ $0,131068", 0x3D007FFF);
        word(" BZ $0,0-131072", 0x3D008000);
        word(" JMP 33554428", 0x427FFFFF);
        word(" JMP 0-33554432", 0x42800000);
        octa(" LOC 65532| JMP 0", 65528, 0x42FFC001L);
        octa(" LOC 5| BZ $1,4", 8, 0x3D01FFFF00000000L);
        octa(" LOC 5| BZ $1,@", 8, 0x3D01000000000000L);
    }

    private static void data() {
        octa(" BYTE 1,2,255,256,0-1", 0, 0x0102FF00FF000000L);
        octa(" BYTE \"ab, c\",'d'", 0, 0x61622C2063640000L);
        octa(" BYTE 1| TETRA #1234567890,2", 0, 0x0100000034567890L);
        octa(" BYTE 1| TETRA #1234567890,2", 8, 0x0000000200000000L);
        octa(" BYTE 1| OCTA #FEdcBA9876543210,5", 8, 0xFEDCBA9876543210L);
        octa(" BYTE 1| OCTA #FEdcBA9876543210,5", 16, 5);
        octa(" BYTE 1| OCTA #FEdcBA9876543210,5", 0, 0x0100000000000000L);
        octa(" LOC 65535| BYTE 9", 65528, 9);
        octa(" LOC 65536| LOC 65528| OCTA 7", 65528, 7);
        octa(" BYTE @,@,@+1", 0, 0x0001030000000000L);
        octa(" LOC 3| TETRA @,@", 0, 0x0000000000000004L);
        octa(" LOC 3| TETRA @,@", 8, 0x0000000800000000L);
        octa(" BYTE 1,2| LOC 1| BYTE 7", 0, 0x0107000000000000L);
    }

    private static void sums() {
        octa(" OCTA 1+2-4", 0, -1);
        octa(" OCTA 5-1-1", 0, 3);
        octa(" OCTA 9223372036854775807+1", 0, Long.MIN_VALUE);
        octa(" OCTA 0009", 0, 9);
        octa(" OCTA 00000000000000000000000000000000012", 0, 12);
        octa(" OCTA #f", 0, 15);
        octa(" OCTA #FFFFFFFFFFFFFFFF", 0, -1);
        octa(" OCTA 'a'+'+'-','", 0, 97 + 43 - 44);
        octa(" OCTA ' '", 0, 32);
        octa(" OCTA '''", 0, 39);
        octa(" OCTA '\"'", 0, 34);
        octa(" OCTA '\u00FF'", 0, 255);
        octa("A IS 7|b2 IS #10| OCTA A+b2-1", 0, 22);
        word("r IS $9|e IS 5| ADD r,r,e+1", 0x07090906);
        word("r IS $9|q IS r| ADD q,$03,q", 0x06090309);
    }

    private static void labels() {
        octa(" BYTE 1|A|B  |C TETRA 2|D| BYTE A,B,C,D", 8, 0x0101040800000000L);
        octa(" BYTE 1|A OCTA 5|B BYTE 9| BYTE A,B", 16, 0x0908100000000000L);
        octa(" BYTE 1|A SWYM|B BYTE A", 8, 0x0400000000000000L);
        octa("A LOC 24|B BYTE A| BYTE A,B", 24, 0x1818180000000000L);
        octa("A IS 5|a IS 6|A1 IS 7| BYTE A,a,A1", 0, 0x0506070000000000L);
        octa("abcdefGHIJ12 IS 1|abcdefGHIJ1 IS 2|abcdef IS 3| BYTE abcdefGHIJ12,abcdefGHIJ1,abcdef",
                0, 0x0102030000000000L);
        octa("A OCTA 1,A,A", 16, 0);
        octa(" LOC 9|A OCTA 1,A,@", 24, 16);
        octa(" LOC 9|A OCTA 1,A,@", 32, 32);
        octa("AZaz09 IS 5|zZ9 IS 6|a| BYTE AZaz09,zZ9,a", 0, 0x0506000000000000L);
        octa(" BYTE 1|A IS 5| BYTE 2|B LOC 5| BYTE A,B", 0, 0x0102000000050500L);
        word("A JMP A", 0x42000000);
        word("A BZ $1,A", 0x3D010000);
    }

    private static void ahead() {
        octa(" JMP A| BZ $1,A|A SWYM", 0, 0x420000023D010001L);
        octa(" OCTA A,1,A| SWYM|A BYTE 1", 0, 28);
        octa(" OCTA A,1,A| SWYM|A BYTE 1", 16, 28);
        octa(" OCTA A|A IS 0-5", 0, -5);
        octa(" JMP A|A IS 400", 0, 0x4200006400000000L);
        octa(" LOC 40| GETA $2,A| PUSHJ $3,A| LOC 8|A", 40, 0x4502FFF84303FFF7L);
        octa(" LOC 65532| JMP A| LOC 0|A", 65528, 0x42FFC001L);
        octa(" JMP A| LOC 0| OCTA #0101010101010101|A SWYM", 0, 0x0100000201010101L);
        octa(" OCTA A| LOC 0| OCTA 77|A SWYM", 0, 8);
    }

    private static void lines() {
        octa("* all of it|; BYTE 9|1 BYTE 8|| BYTE 7 and, the rest \"|", 0, 0x0700000000000000L);
        octa("A    BYTE    1,2    3", 0, 0x0102000000000000L);
        octa(" BYTE 1", 0, 0x0100000000000000L);
        octa("", 0, 0);
        octa("|  ||", 0, 0);
        octa("\t BYTE 3| BYTE 4", 0, 0x0400000000000000L);
    }

    private static void starts() {
        Tester.due("Main", Tester.assembled(" LOC 20|Main SWYM").register(37), 20);
        Tester.due("Main alone", Tester.assembled(" LOC 22|Main").register(37), 22);
        Tester.due("Main by LOC", Tester.assembled("Main LOC 65536").register(37), 65536);
        Tester.due("Main by BYTE", Tester.assembled(" LOC 3|Main BYTE 1").register(37), 3);
        Tester.due("Main by IS", Tester.assembled("Main IS 20").register(37), 0);
        Tester.due("Main, a register", Tester.assembled("Main IS $20").register(37), 0);
        Tester.due("no Main", Tester.assembled(" LOC 20|main SWYM|Mai|Main1|MAIN").register(37), 0);
        Tester.due("Main ahead", Tester.assembled(" LOC 8| JMP Main|Main").register(37), 12);
    }

    /** A fault leaves memory and counts, but nothing is loaded. */
    private static void takesNothing() {
        PagedMachine m = Tester.ran(" SETL $1,#4000| STO $1,$1| TRAP 0", 1);
        long octa = m.octa(0);
        Tester.due("assemble", Tester.assemble(m, " BYTE 1\n BYTE\n"), -1);
        Tester.due("octa(0)", m.octa(0), octa);
        Tester.due("octa(#4000)", m.octa(0x4000), 0x4000);
        Tester.due("faults", m.told(0), 2);
        Tester.due("page(1)", m.page(1), 256);
        Tester.due("loaded", m.told(6), 0);
        Tester.due("run", m.run(1), -1);
        Tester.due("run(0)", m.run(0), -1);
        Tester.due("register", m.register(1), 0x4000);
        Tester.due("steps", m.steps(), 3);
        Tester.due("the tape", m.end(1), -1);
        Tester.due("assemble", Tester.assemble(m, " SWYM\n"), 0);
        Tester.due("octa(0)", m.octa(0), 0x50L << 56);
        Tester.due("octa(#4000)", m.octa(0x4000), 0);
        Tester.due("faults", m.told(0), 0);
        Tester.due("page(0)", m.page(0), -1);
        Tester.due("loaded", m.told(6), 1);
        Tester.due("register", m.register(1), 0);
        Tester.due("steps", m.steps(), 0);
        Tester.due("run", m.run(1), 0);
    }

    /** An empty tape is a text without a line: it is loaded, and its run finds a TRAP 0. */
    private static void takesAnEmptyText() {
        PagedMachine m = Tester.ran(" LOC 8|Main SETL $1,5| TRAP 0", 1);
        Tester.due("assemble", m.assemble(), 0);
        Tester.due("fault(0)", m.fault(0), 0);
        Tester.due("fault(1)", m.fault(1), -1);
        Tester.due("loaded", m.told(6), 1);
        Tester.due("octa(8)", m.octa(8), 0);
        Tester.due("$1", m.register(1), 0);
        Tester.due("the place", m.register(37), 0);
        Tester.due("run", m.run(5), 1);
        Tester.due("steps", m.steps(), 1);
        Tester.due("page 0 was never touched", m.told(1), 0);
    }

    private static void pagesOnDisk() {
        PagedMachine m = Tester.assembled(" LDB $1,$0,64| LDB $1,$0,128| TRAP 0| LOC 64| LOC 128| BYTE 0");
        Tester.due("run", m.run(1), 0);
        Tester.due("the code was on the disk", m.told(1), 1);
        Tester.due("run", m.run(1), 0);
        Tester.due("page 2 was laid too", m.told(1), 2);
        Tester.due("faults", m.told(0), 3);
    }

    private static void manyLabels() {
        StringBuilder text = new StringBuilder();
        for (int i = 0; i < 150; i++) {
            text.append(" OCTA L").append(i).append('\n');
        }
        for (int i = 0; i < 150; i++) {
            text.append('K').append(i).append('\n');
        }
        for (int i = 0; i < 150; i++) {
            text.append('L').append(i).append('\n');
        }
        PagedMachine m = new PagedMachine();
        Tester.due("300 labels", Tester.assemble(m, text.toString()), 0);
        Tester.due("the last one", m.octa(149 * 8), 1200);
    }
}
