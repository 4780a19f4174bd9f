import java.math.BigInteger;

/** The instructions that compute, load, store, set and branch (promises 9, 11 and 12). */
public final class ComputeTest {
    private static final long[] NUMBERS = {
        0, 1, -1, 2, -2, 3, -3, 7, 10, 63, 64, 65, 255, -255, 1L << 31, 1L << 32, -1L << 32,
        0x123456789ABCDEFL, 0xFEDCBA9876543210L, Long.MAX_VALUE, Long.MIN_VALUE, Long.MIN_VALUE + 1
    };

    public static void main(String[] args) {
        for (long y : NUMBERS) {
            for (long z : NUMBERS) {
                pair(y, z);
            }
        }
        dividesLong();
        immediates();
        loads();
        stores();
        sets();
        branches();
        jumps();
        specials();
        Tester.finish("ComputeTest");
    }

    private static BigInteger unsigned(long value) {
        return new BigInteger(Long.toUnsignedString(value));
    }

    /** Each op of two numbers on one pair. */
    private static void pair(long y, long z) {
        String head = "Y OCTA " + octa(y) + "|Z OCTA " + octa(z) + "|Main LDO $20,$16,Y| LDO $21,$16,Z";
        PagedMachine m = Tester.ran(head + "| MUL $0,$20,$21| ADD $1,$20,$21| SUB $2,$20,$21"
                + "| CMP $3,$20,$21| CMPU $4,$20,$21| AND $5,$20,$21| OR $6,$20,$21| XOR $7,$20,$21"
                + "| ANDN $8,$20,$21| SL $9,$20,$21| SR $10,$20,$21| SRU $11,$20,$21| NEG $12,9,$21"
                + "| DIV $13,$20,$21| GET $14,2| MULU $15,$20,$21| GET $17,1| LDA $18,$20,$21| TRAP 0", 1);
        String what = " of " + y + " and " + z;
        boolean far = z < 0 || z > 63;
        Tester.due("MUL" + what, m.register(0), y * z);
        Tester.due("ADD" + what, m.register(1), y + z);
        Tester.due("SUB" + what, m.register(2), y - z);
        Tester.due("CMP" + what, m.register(3), Integer.signum(Long.compare(y, z)));
        Tester.due("CMPU" + what, m.register(4), Integer.signum(Long.compareUnsigned(y, z)));
        Tester.due("AND" + what, m.register(5), y & z);
        Tester.due("OR" + what, m.register(6), y | z);
        Tester.due("XOR" + what, m.register(7), y ^ z);
        Tester.due("ANDN" + what, m.register(8), y & ~z);
        Tester.due("SL" + what, m.register(9), far ? 0 : y << z);
        Tester.due("SR" + what, m.register(10), far ? y < 0 ? -1 : 0 : y >> z);
        Tester.due("SRU" + what, m.register(11), far ? 0 : y >>> z);
        Tester.due("NEG 9 less" + what, m.register(12), 9 - z);
        Tester.due("DIV" + what, m.register(13), z == 0 ? 0 : Math.floorDiv(y, z));
        Tester.due("rR of DIV" + what, m.register(14), z == 0 ? y : Math.floorMod(y, z));
        Tester.due("MULU" + what, m.register(15), y * z);
        Tester.due("rH of MULU" + what, m.register(17),
                unsigned(y).multiply(unsigned(z)).shiftRight(64).longValue());
        Tester.due("rH" + what, m.register(33), m.register(17));
        Tester.due("LDA" + what, m.register(18), y + z);
    }

    private static String octa(long value) {
        return "#" + Long.toHexString(value);
    }

    private static void dividesLong() {
        for (long high : NUMBERS) {
            for (long z : NUMBERS) {
                divideLong(high, 0xFEDCBA9876543210L, z);
                divideLong(high, 5, z);
            }
        }
    }

    private static void divideLong(long high, long y, long z) {
        PagedMachine m = Tester.ran("H OCTA " + octa(high) + "|Y OCTA " + octa(y) + "|Z OCTA " + octa(z)
                + "|Main LDO $20,$16,H| PUT 0,$20| LDO $20,$16,Y| LDO $21,$16,Z| DIVU $0,$20,$21| TRAP 0", 1);
        String what = " of " + high + ", " + y + " by " + z;
        boolean plain = Long.compareUnsigned(z, high) <= 0;
        BigInteger all = unsigned(high).shiftLeft(64).add(unsigned(y));
        Tester.due("DIVU" + what, m.register(0), plain ? high : all.divide(unsigned(z)).longValue());
        Tester.due("rR" + what, m.register(34), plain ? y : all.mod(unsigned(z)).longValue());
        Tester.due("rD" + what, m.register(32), high);
    }

    private static void result(String lines, long want) {
        Tester.due("$1 of " + lines, Tester.ran(lines + "| TRAP 0", 1).register(1), want);
    }

    private static void immediates() {
        result(" SUB $1,$0,255", -255);
        result(" NEG $1,255,1", 254);
        result(" NEG $1,0,255", -255);
        result(" SETL $0,5| NEG $1,$0", -5);
        result(" SETL $0,5| NEG $1,3,$0", -2);
        result(" SETL $0,100| DIV $1,$0,7", 14);
        result(" SETL $0,100| NEG $0,$0| DIV $1,$0,7", -15);
        result(" SETL $0,100| CMP $1,$0,100", 0);
        result(" SETL $0,100| CMP $1,$0,101", -1);
        result(" SETL $0,1| SL $1,$0,63", Long.MIN_VALUE);
        result(" SETL $0,1| SL $1,$0,64", 0);
        result(" NEG $0,0,1| SR $1,$0,64", -1);
        result(" NEG $0,0,1| SRU $1,$0,64", 0);
        result(" NEG $0,0,1| SRU $1,$0,255", 0);
        result(" NEG $0,0,1| SRU $1,$0,63", 1);
    }

    private static void loads() {
        String data = "| TRAP 0| LOC 64| OCTA #8182838485868788,#0102030405060708";
        long[][] dues = {
            {'B', 64, -127}, {'B', 71, -120}, {'B', 72, 1}, {'U', 64, 129}, {'U', 71, 136},
            {'T', 64, 0xFFFFFFFF81828384L}, {'T', 67, 0xFFFFFFFF81828384L},
            {'T', 68, 0xFFFFFFFF85868788L}, {'T', 75, 0x01020304}, {'T', 76, 0x05060708},
            {'O', 64, 0x8182838485868788L}, {'O', 71, 0x8182838485868788L},
            {'O', 72, 0x0102030405060708L}, {'O', 79, 0x0102030405060708L}
        };
        for (long[] due : dues) {
            String name = due[0] == 'U' ? "LDBU" : "LD" + (char) due[0];
            result(" " + name + " $1,$0," + due[1] + data, due[2]);
            result(" SETL $2," + (due[1] + 7) + "| NEG $3,7,14| " + name + " $1,$2,$3" + data, due[2]);
        }
        result(" SETL $0,65535| LDB $1,$0" + data, 0);
        result(" SETL $0,65535| LDO $1,$0" + data, 0);
    }

    private static void stored(String line, long first, long second) {
        PagedMachine m = Tester.ran("Main LDO $2,$0,64| SETL $3,3|" + line
                + "| TRAP 0| LOC 64| OCTA #8182838485868788,0-1", 1);
        Tester.due("octa(64) of " + line, m.octa(64), first);
        Tester.due("octa(72) of " + line, m.octa(72), second);
    }

    private static void stores() {
        stored(" STB $2,$0,72", 0x8182838485868788L, 0x88FFFFFFFFFFFFFFL);
        stored(" STB $2,$0,79", 0x8182838485868788L, 0xFFFFFFFFFFFFFF88L);
        stored(" STB $2,$3,64", 0x8182838885868788L, -1);
        stored(" STT $2,$0,72", 0x8182838485868788L, 0x85868788FFFFFFFFL);
        stored(" STT $2,$0,79", 0x8182838485868788L, 0xFFFFFFFF85868788L);
        stored(" STT $2,$3,64", 0x8586878885868788L, -1);
        stored(" STO $2,$0,72", 0x8182838485868788L, 0x8182838485868788L);
        stored(" STO $2,$3,76", 0x8182838485868788L, 0x8182838485868788L);
        stored(" STO $15,$0,64", 0, -1);
        stored(" SETL $4,72| STB $2,$3,$4", 0x8182838485868788L, 0xFFFFFF88FFFFFFFFL);
        stored(" SETL $4,72| STT $2,$3,$4", 0x8182838485868788L, 0x85868788FFFFFFFFL);
        stored(" SETL $4,72| STO $2,$3,$4", 0x8182838485868788L, 0x8182838485868788L);
        PagedMachine m = Tester.ran(" SETL $2,65535| STB $2,$2| SETL $2,65532| STT $2,$2| TRAP 0", 1);
        Tester.due("octa(65528)", m.octa(65528), 65532);
        Tester.due("octa(65535)", m.octa(65535), 65532);
        Tester.due("octa(65536)", m.octa(65536), 0);
        Tester.due("octa(-1)", m.octa(-1), 0);
        Tester.due("octa(MIN)", m.octa(Integer.MIN_VALUE), 0);
        Tester.due("octa(MAX)", m.octa(Integer.MAX_VALUE), 0);
        Tester.due("octa(0)", m.octa(0), m.octa(7));
        Tester.due("nothing is touched", m.told(0), 2);
    }

    private static void sets() {
        result(" SETL $1,65535", 65535);
        result(" SETML $1,65535", 65535L << 16);
        result(" SETMH $1,65535", 65535L << 32);
        result(" SETH $1,65535", -1L << 48);
        result(" SETH $1,1| SETL $1,2", 2);
        result(" NEG $1,0,1| INCL $1,1", 0);
        result(" NEG $1,0,1| INCML $1,2", 0x1FFFF);
        result(" NEG $1,0,1| INCMH $1,2", 0x1FFFFFFFFL);
        result(" NEG $1,0,1| INCH $1,32768", Long.MAX_VALUE);
        result(" INCH $1,32768", Long.MIN_VALUE);
        result(" SWYM| SWYM", 0);
    }

    private static void branch(String name, boolean below, boolean zero, boolean above) {
        long[] values = {below ? 1 : 0, zero ? 1 : 0, above ? 1 : 0};
        for (int i = 0; i < 3; i++) {
            String lines = " NEG $2,1," + (2 - i) + "| " + name + " $2,On| TRAP 0|On SETL $1,1";
            result(lines, values[i]);
        }
    }

    private static void branches() {
        branch("BN", true, false, false);
        branch("BZ", false, true, false);
        branch("BP", false, false, true);
        branch("BNN", false, true, true);
        branch("BNZ", true, false, true);
        branch("BNP", true, true, false);
        result("A ADD $1,$1,1| CMP $2,$1,9| BN $2,A", 9);
    }

    private static void jumps() {
        result(" JMP B|A SETL $1,7| TRAP 0|B JMP A", 7);
        result(" LOC 100|Main GETA $1,@+8", 108);
        result(" LOC 100|Main GETA $1,20", 20);
        result(" GETA $1,0-8", -8);
        PagedMachine m = Tester.ran(" SETL $0,17| GO $1,$0,4| SWYM| SWYM| SWYM| TRAP 0", 1);
        Tester.due("GO: W + 4", m.register(1), 8);
        Tester.due("GO: the place, its lowest bits cleared", m.register(37), 24);
        m = Tester.assembled(" SETL $0,17| GO $0,$0,$0");
        Tester.due("run", m.run(2), 0);
        Tester.due("GO to where it said", m.register(37), 34);
        Tester.due("GO: x of its own y", m.register(0), 8);
        m = Tester.assembled(" SETL $31,5| JMP 33554432");
        Tester.due("run", m.run(2), 0);
        Tester.due("an offset of 24 bits", m.register(37), 33554432);
        m = Tester.assembled(" JMP 0-33554432");
        Tester.due("run", m.run(1), 0);
        Tester.due("an offset of 24 bits, below 0", m.register(37), -33554432);
        m = Tester.assembled(" JMP @-8");
        Tester.due("run", m.run(1), 0);
        Tester.due("a jump to below 0", m.register(37), -8);
        Tester.due("run", m.run(1), 4);
        Tester.due("steps", m.steps(), 1);
    }

    private static void specials() {
        PagedMachine m = Tester.ran(" SETL $20,11| SETL $21,12| SETL $22,13| SETL $23,20| PUT 0,$20"
                + "| PUT 1,$21| PUT 2,$22| PUT 3,$23| GET $24,0| GET $25,1| GET $26,2| GET $27,3"
                + "| GET $28,4| TRAP 0", 1);
        for (int i = 0; i < 3; i++) {
            Tester.due("special " + i, m.register(32 + i), 11 + i);
            Tester.due("GET " + i, m.register(24 + i), 11 + i);
        }
        Tester.due("rJ", m.register(35), 20);
        Tester.due("GET rJ", m.register(27), 20);
        Tester.due("GET rL", m.register(28), 0);
        Tester.due("rL", m.register(36), 0);
        m = Tester.ran(" SETL $4,9| GET $6,4| GET $7,4| TRAP 0", 1);
        Tester.due("GET rL to a MARGINAL one", m.register(6), 5);
        Tester.due("GET rL", m.register(7), 7);
        m = Tester.ran(" SETL $4,9| SETL $2,7| SETL $20,3| PUT 4,$20| TRAP 0", 1);
        Tester.due("PUT rL", m.register(36), 3);
        Tester.due("$2 stays", m.register(2), 7);
        Tester.due("$4 is MARGINAL", m.register(4), 0);
        m = Tester.ran(" SETL $4,9| NEG $20,0,1| PUT 4,$20| SETL $20,6| PUT 4,$20| TRAP 0", 1);
        Tester.due("PUT rL never raises it", m.register(36), 5);
        m = Tester.ran(" SETL $4,9| PUT 4,$20| SETL $5,1| TRAP 0", 1);
        Tester.due("those that were MARGINAL are 0", m.register(4), 0);
        Tester.due("rL", m.register(36), 6);
    }
}
