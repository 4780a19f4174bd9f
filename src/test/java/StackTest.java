import java.util.ArrayList;
import java.util.List;
import java.util.Random;

/** Promise 11 (register): LOCAL, MARGINAL and GLOBAL registers, PUSHJ, POP and the stack's limit. */
public final class StackTest {
    public static void main(String[] args) {
        marginal();
        global();
        pushes();
        pushesAll();
        pops();
        popsBehindLast();
        popsPlace();
        popsEmpty();
        nested();
        limitOfWrites();
        limitOfPushes();
        wrongNumbers();
        writesOfMarginal();
        readsOfMarginal();
        lastLocal();
        limitOfEachOp();
        limitOfEachPush();
        pushesStale();
        pushesEach();
        popsEach();
        for (int seed = 1; seed <= 150; seed++) {
            againstModel(seed);
        }
        Tester.finish("StackTest");
    }

    /** Runs lines with 597 numbers on the stack and no LOCAL register. */
    static PagedMachine full(String lines, int end) {
        return Tester.ran("Main SETL $16,199|A SUB $16,$16,1| PUSHJ $2,B|B BP $16,A|" + lines, end);
    }

    private static void registers(String what, PagedMachine m, long... values) {
        Tester.due("rL " + what, m.register(36), values.length);
        for (int k = 0; k < 16; k++) {
            Tester.due("$" + k + " " + what, m.register(k), k < values.length ? values[k] : 0);
        }
    }

    /** Sets $0, $1, .. to 1, 2, .. */
    private static String some(int count) {
        StringBuilder lines = new StringBuilder();
        for (int k = 0; k < count; k++) {
            lines.append(" SETL $").append(k).append(',').append(k + 1).append('|');
        }
        return lines.toString();
    }

    private static void marginal() {
        PagedMachine m = Tester.ran(" SETL $3,9| TRAP 0", 1);
        registers("behind a write of $3", m, 0, 0, 0, 9);
        m = Tester.ran(" SETL $3,9| SETL $2,5| TRAP 0", 1);
        registers("behind a write of a LOCAL one", m, 0, 0, 5, 9);
        m = Tester.ran(" SETL $15,9| TRAP 0", 1);
        Tester.due("rL behind a write of $15", m.register(36), 16);
        m = Tester.ran(some(5) + " PUT 4,$20| SETL $3,9| TRAP 0", 1);
        registers("those that were MARGINAL are 0", m, 0, 0, 0, 9);
        m = Tester.ran(" ADD $20,$7,$9| STO $5,$20,128| TRAP 0", 1);
        registers("behind reading", m);
        m = Tester.ran(" INCL $2,7| TRAP 0", 1);
        registers("behind INCL", m, 0, 0, 7);
        m = Tester.ran(" LDB $1,$0| TRAP 0", 1);
        registers("behind LDB", m, 0, 37);
    }

    private static void global() {
        PagedMachine m = Tester.ran(" SETL $16,1| SETL $31,2| PUSHJ $0,A|A ADD $17,$16,$31| TRAP 0", 1);
        Tester.due("$16", m.register(16), 1);
        Tester.due("$17", m.register(17), 3);
        Tester.due("$31", m.register(31), 2);
        Tester.due("rL", m.register(36), 0);
    }

    private static void pushes() {
        PagedMachine m = Tester.ran(some(5) + " PUSHJ $2,A| SWYM| SWYM|A TRAP 0", 1);
        registers("behind PUSHJ $2", m, 4, 5);
        Tester.due("depth", m.register(38), 3);
        Tester.due("rJ", m.register(35), 24);
        Tester.due("the place", m.register(37), 36);
        m = Tester.ran(some(5) + " PUSHJ $4,A|A TRAP 0", 1);
        registers("behind PUSHJ $4", m);
        Tester.due("depth", m.register(38), 5);
        m = Tester.ran(some(2) + " PUSHJ $5,A|A TRAP 0", 1);
        registers("behind PUSHJ of a MARGINAL one", m);
        Tester.due("depth", m.register(38), 6);
        m = Tester.ran(some(2) + " PUSHJ $0,A|A TRAP 0", 1);
        registers("behind PUSHJ $0", m, 2);
        Tester.due("depth", m.register(38), 1);
        m = Tester.ran(" JMP B|A TRAP 0|B PUSHJ $0,A", 1);
        Tester.due("rJ of a PUSHJ back", m.register(35), 12);
    }

    private static void pushesAll() {
        for (int x = 16; x < 256; x += x == 16 ? 15 : x == 31 ? 1 : 223) {
            PagedMachine m = Tester.ran(some(3) + " TETRA #43000001+" + (x << 16) + "| TRAP 0", 1);
            registers("behind PUSHJ " + x, m);
            Tester.due("depth behind PUSHJ " + x, m.register(38), 4);
            m = Tester.ran(some(3) + " TETRA #43000002+" + (x << 16) + "| TRAP 0| POP", 1);
            registers("behind PUSHJ " + x + " and POP", m, 1, 2, 3);
            Tester.due("depth behind POP", m.register(38), 0);
            m = Tester.ran(" TETRA #43000001+" + (x << 16) + "| TRAP 0", 1);
            Tester.due("depth behind PUSHJ " + x + " without LOCAL ones", m.register(38), 1);
        }
        PagedMachine m = Tester.ran(some(16) + " PUSHJ $16,A| TRAP 0|A SETL $0,7| POP 1", 1);
        registers("behind sixteen and POP 1", m, 1, 2, 3, 4, 5, 6, 7, 8, 9, 10, 11, 12, 13, 14, 15, 16);
        m = Tester.ran(some(16) + " PUSHJ $15,A| TRAP 0|A SETL $0,7| SETL $1,8| POP 2", 1);
        registers("behind fifteen and POP 2", m, 1, 2, 3, 4, 5, 6, 7, 8, 9, 10, 11, 12, 13, 14, 15, 8);
    }

    private static void pop(String from, int x, long... values) {
        PagedMachine m = Tester.ran(some(3) + " PUSHJ $2,A| TRAP 0|A SWYM|" + from + " POP " + x, 1);
        registers("behind POP " + x + " of " + from, m, values);
        Tester.due("depth behind POP " + x, m.register(38), 0);
    }

    private static void pops() {
        String three = " SETL $0,21| SETL $1,22| SETL $2,23|";
        pop(three, 0, 1, 2);
        pop(three, 1, 1, 2, 21);
        pop(three, 2, 1, 2, 22, 21);
        pop(three, 3, 1, 2, 23, 21, 22);
        pop(three, 4, 1, 2, 0, 21, 22, 23);
        pop(three, 5, 1, 2, 0, 21, 22, 23);
        pop(three, 16, 1, 2, 0, 21, 22, 23);
        pop(three, 255, 1, 2, 0, 21, 22, 23);
        pop("", 0, 1, 2);
        pop("", 1, 1, 2, 0);
        pop("", 200, 1, 2, 0);
    }

    private static void popsBehindLast() {
        PagedMachine m = Tester.ran(some(14) + " PUSHJ $13,A| TRAP 0|A SETL $0,21| SETL $1,22| SETL $2,23"
                + "| SETL $3,24| POP 4", 1);
        registers("what would come behind $15 is lost", m,
                1, 2, 3, 4, 5, 6, 7, 8, 9, 10, 11, 12, 13, 24, 21, 22);
        for (int x = 10; x <= 16; x++) {
            m = Tester.ran(" SETL $16,77| SETL $15,9| PUSHJ $" + x + ",A| TRAP 0|A SETL $8,22| POP 9", 1);
            Tester.due("$16 stays behind PUSHJ $" + x, m.register(16), 77);
            Tester.due("rL behind PUSHJ $" + x, m.register(36), 16);
        }
        m = Tester.ran(some(16) + " PUSHJ $0,A| TRAP 0|A POP 255", 1);
        registers("fifteen behind a 0", m, 0, 2, 3, 4, 5, 6, 7, 8, 9, 10, 11, 12, 13, 14, 15, 16);
        m = Tester.ran(" PUSHJ $0,A| TRAP 0|A SETL $15,9| SETL $0,1| POP 16", 1);
        registers("POP 16 of sixteen", m, 9, 1, 0, 0, 0, 0, 0, 0, 0, 0, 0, 0, 0, 0, 0, 0);
        m = Tester.ran(" PUSHJ $0,A| TRAP 0|A SETL $15,9| SETL $0,1| POP 17", 1);
        registers("POP 17 of sixteen", m, 0, 1, 0, 0, 0, 0, 0, 0, 0, 0, 0, 0, 0, 0, 0, 0);
    }

    private static void popsPlace() {
        PagedMachine m = Tester.ran(" PUSHJ $0,A| SWYM| SWYM| TRAP 0|A POP 0,2", 1);
        Tester.due("POP 0,2", m.steps(), 3);
        m = Tester.assembled(" PUSHJ $0,A|A POP 0,65535");
        Tester.due("run", m.run(2), 0);
        Tester.due("without sign", m.register(37), 4 + 4 * 65535);
        m = Tester.assembled(" NEG $20,0,7| PUSHJ $0,A|A PUT 3,$20| POP 0,1");
        Tester.due("run", m.run(4), 0);
        Tester.due("from rJ", m.register(37), -3);
    }

    private static void popsEmpty() {
        PagedMachine m = Tester.ran(some(2) + " POP 1", 8);
        registers("behind POP of nothing", m, 1, 2);
        Tester.due("steps", m.steps(), 2);
        Tester.due("the place", m.register(37), 8);
        m = Tester.ran(" PUSHJ $0,A| POP|A POP", 8);
        Tester.due("steps", m.steps(), 2);
    }

    /** The sum of 10 to 1, by calls within calls. */
    private static void nested() {
        PagedMachine m = Tester.ran("Main SETL $1,10| PUSHJ $0,Sum| TRAP 0|Sum BNZ $0,More| POP 1"
                + "|More GET $1,3| SUB $3,$0,1| PUSHJ $2,Sum| PUT 3,$1| ADD $0,$0,$2| POP 1", 1);
        Tester.due("the sum", m.register(0), 55);
        Tester.due("depth", m.register(38), 0);
    }

    private static void limitOfWrites() {
        PagedMachine m = full(" SETL $2,7| TRAP 0", 1);
        Tester.due("600 are fine: depth", m.register(38), 597);
        Tester.due("600 are fine: rL", m.register(36), 3);
        String[] lines = {
            " SETL $3,7", " INCL $3,7", " ADD $3,$1,$2", " NEG $3,1,2", " LDB $3,$1", " LDO $3,$1",
            " LDA $3,$1", " LDA $3,$1,$2", " GO $3,$1", " GO $3,$1,$2",
            " LDO $3,$1,$2", " NEG $3,1,$2", " GETA $3,@", " GET $3,4", " DIV $3,$1,0", " MULU $3,$1,$1",
            " SETL $15,7", " SETL $2,1| SETL $3,1"
        };
        for (String line : lines) {
            m = full(line, 5);
            Tester.due("depth behind" + line, m.register(38), 597);
            Tester.due("$3 behind" + line, m.register(3), 0);
            Tester.due("told(5) behind" + line, m.told(5), 5);
        }
        full(" STB $15,$20,255| TRAP 0", 1);
        full(" STB $15,$20,$21| STT $15,$20,$21| STO $15,$20,$21| TRAP 0", 1);
        full(" BZ $15,@+4| PUT 0,$15| SETL $16,5| TRAP 0", 1);
        m = full(" SETML $20,1| DIV $3,$20,7", 5);
        Tester.due("nothing is done, rR", m.register(34), 0);
        m = full(" SETL $2,7| PUT 4,$20| SETL $2,7| TRAP 0", 1);
        Tester.due("rL counts", m.register(36), 3);
    }

    private static void limitOfPushes() {
        PagedMachine m = full(" PUSHJ $2,C|C TRAP 0", 1);
        Tester.due("600 on the stack", m.register(38), 600);
        m = full(" PUSHJ $3,C|C TRAP 0", 5);
        Tester.due("601 are too many", m.register(38), 597);
        Tester.due("rJ is as it was", m.register(35), 12);
        m = full(" SETL $1,1| PUSHJ $16,C|C TRAP 0", 1);
        Tester.due("two and their number", m.register(38), 600);
        m = full(" SETL $2,1| PUSHJ $16,C|C TRAP 0", 5);
        Tester.due("three and their number", m.register(38), 597);
        Tester.due("rL", m.register(36), 3);
        m = full(" SETL $2,1| PUSHJ $0,C|C PUSHJ $0,D|D PUSHJ $0,E|E TRAP 0", 1);
        Tester.due("one by one", m.register(38), 600);
        m = full(" SETL $2,1| PUSHJ $0,C|C PUSHJ $0,D|D PUSHJ $0,E|E PUSHJ $0,F|F TRAP 0", 5);
        Tester.due("one too many", m.register(38), 600);
        m = full(" PUSHJ $2,C| TRAP 0|C POP 255", 1);
        Tester.due("POP gives them back", m.register(38), 597);
        Tester.due("with a 0 behind", m.register(36), 3);
        m = full(" PUSHJ $2,C|C SETL $0,1", 5);
        Tester.due("no LOCAL one behind 600", m.register(36), 0);
    }

    private static void wrongNumbers() {
        PagedMachine m = Tester.ran(some(16) + " SETL $31,5| PUSHJ $1,A|A TRAP 0", 1);
        Tester.due("register(-1)", m.register(-1), 0);
        Tester.due("register(39)", m.register(39), 0);
        Tester.due("register(MIN)", m.register(Integer.MIN_VALUE), 0);
        Tester.due("register(MAX)", m.register(Integer.MAX_VALUE), 0);
        Tester.due("register(31)", m.register(31), 5);
        Tester.due("register(38)", m.register(38), 2);
    }

    /** Sixteen registers that hold 1, 2, .., then rL becomes n, so that old numbers lie behind it. */
    private static String stale(int n) {
        return some(16) + " SETL $20," + n + "| PUT 4,$20|";
    }

    /** "when MARGINAL $k is written, rL becomes k + 1, and those below that were MARGINAL are 0". */
    private static void writesOfMarginal() {
        for (int n = 0; n <= 16; n++) {
            for (int k = 0; k < 16; k++) {
                PagedMachine m = Tester.ran(stale(n) + " SETL $" + k + ",99| TRAP 0", 1);
                long[] due = new long[Math.max(n, k + 1)];
                for (int i = 0; i < due.length; i++) {
                    due[i] = i == k ? 99 : i < n ? i + 1 : 0;
                }
                registers("behind a write of $" + k + " with rL " + n, m, due);
            }
        }
    }

    /** "the rest MARGINAL: they read as 0", and reading leaves rL. */
    private static void readsOfMarginal() {
        for (int n = 0; n <= 16; n++) {
            PagedMachine m = Tester.ran(stale(n) + " LDA $21,$0| LDA $22,$15| ADD $23,$7,$8| STB $15,$24,255| BZ $9,@+4"
                    + "| TRAP 0", 1);
            Tester.due("$0 with rL " + n, m.register(21), n > 0 ? 1 : 0);
            Tester.due("$15 with rL " + n, m.register(22), n > 15 ? 16 : 0);
            Tester.due("$7 and $8 with rL " + n, m.register(23), (n > 7 ? 8 : 0) + (n > 8 ? 9 : 0));
            Tester.due("rL " + n, m.register(36), n);
        }
    }

    /** "from $16 on GLOBAL": $15 is the last that can be LOCAL. */
    private static void lastLocal() {
        PagedMachine m = Tester.ran(" SETL $16,5| SETL $31,6| TRAP 0", 1);
        Tester.due("rL behind writes of GLOBAL ones", m.register(36), 0);
        Tester.due("$16", m.register(16), 5);
        Tester.due("$31", m.register(31), 6);
        m = Tester.ran(" SETL $15,5| TRAP 0", 1);
        Tester.due("rL behind a write of $15", m.register(36), 16);
        m = Tester.ran(" SETL $16,5| PUSHJ $0,A|A PUT 4,$20| TRAP 0", 1);
        Tester.due("$16 stays", m.register(16), 5);
    }

    /** "600 with the LOCAL ones are its most: END 5, if an instruction would make them more (it is not done)". */
    private static void limitOfEachOp() {
        for (int op = 2; op <= 78; op++) {
            boolean stores = op >= 44 && op < 50;
            boolean writes = op <= 33 || op >= 36 && op <= 53 && !stores || op >= 69;
            if (!writes) {
                continue;
            }
            long word = (long) op << 24 | 0x001010L;
            word = op == 78 ? (long) op << 24 | 3 : word;
            PagedMachine m = full(" TETRA " + (word | 0x020000), 0, 599);
            Tester.due("rL behind op " + op, m.register(36), 3);
            m = full(" TETRA " + (word | 0x030000), 5, 599);
            Tester.due("rL behind op " + op + " that is not done", m.register(36), 0);
            Tester.due("steps of op " + op, m.steps(), 598);
            full(" TETRA " + (word | 0x0F0000), 5, 599);
            full(" TETRA " + (word | 0x100000), 0, 599);
        }
    }

    /** Up to the step of that number, of which only the last may end the run. */
    private static PagedMachine full(String lines, int end, int steps) {
        PagedMachine m = Tester.assembled("Main SETL $16,199|A SUB $16,$16,1| PUSHJ $2,B|B BP $16,A|" + lines);
        Tester.due("run up to" + lines, m.run(steps - 1), 0);
        Tester.due("run of" + lines, m.run(1), end);
        return m;
    }

    /** 597 numbers and n LOCAL ones: what a PUSHJ of each X makes of them. */
    private static void limitOfEachPush() {
        for (int n = 0; n <= 3; n++) {
            for (int x = 0; x <= 17; x++) {
                int away = x >= 16 ? n : x;
                int left = Math.max(0, n - away - 1);
                boolean most = 597 + away + 1 + left > 600;
                String lines = some(n) + " TETRA " + (0x43000001L | x << 16);
                PagedMachine m = full(lines, most ? 5 : 0, 599 + n);
                Tester.due("depth behind PUSHJ " + x + " with rL " + n, m.register(38), most ? 597 : 597 + away + 1);
                Tester.due("rL behind PUSHJ " + x + " with rL " + n, m.register(36), most ? n : left);
                Tester.due("steps behind PUSHJ " + x + " with rL " + n, m.steps(), 598 + n + (most ? 0 : 1));
            }
        }
    }

    /** "else, if it is MARGINAL, $X is written 0 first": those below it are 0, not what they were once. */
    private static void pushesStale() {
        for (int n = 0; n <= 16; n++) {
            for (int x = 0; x <= 17; x++) {
                String lines = stale(n) + " TETRA " + (0x43000002L | x << 16) + "| TRAP 0| POP 1";
                PagedMachine m = Tester.ran(lines, 1);
                int away = x >= 16 ? n : x;
                long[] due = new long[Math.min(16, away + 1)];
                for (int i = 0; i < due.length; i++) {
                    due[i] = i < away && i < n ? i + 1 : 0;
                }
                if (n > away + 1) {
                    due[away] = away + 2;
                }
                registers("behind PUSHJ " + x + " and POP 1 with rL " + n, m, due);
            }
        }
    }

    /** "$0 to $(X - 1), then the number X go on THE STACK; the LOCAL ones above $X are $0, $1, .. now". */
    private static void pushesEach() {
        for (int n = 0; n <= 16; n++) {
            for (int x = 0; x < 256; x += x < 20 ? 1 : x == 20 ? 11 : x == 31 ? 1 : 223) {
                PagedMachine m = Tester.ran(some(n) + " TETRA " + (0x43000001L | x << 16) + "| TRAP 0", 1);
                int away = x >= 16 ? n : x;
                long[] due = new long[Math.max(0, n - away - 1)];
                for (int i = 0; i < due.length; i++) {
                    due[i] = away + 2 + i;
                }
                registers("behind PUSHJ " + x + " with rL " + n, m, due);
                Tester.due("depth behind PUSHJ " + x + " with rL " + n, m.register(38), away + 1);
                Tester.due("rJ behind PUSHJ " + x + " with rL " + n, m.register(35), 4 * n + 4);
            }
        }
    }

    /** "X = 0: none stays. X up to rL: .. X above rL: .. (What would come behind $15 is lost.)" */
    private static void popsEach() {
        int[] xs = {0, 1, 2, 3, 4, 5, 6, 15, 16, 17, 18, 255};
        int[] backs = {0, 1, 2, 13, 14, 15, 16};
        for (int n = 0; n <= 16; n += n == 5 ? 10 : 1) {
            for (int x : xs) {
                for (int back : backs) {
                    popEach(n, x, back);
                }
            }
        }
    }

    private static void popEach(int n, int x, int back) {
        StringBuilder lines = new StringBuilder(some(back) + " PUSHJ $" + back + ",A| TRAP 0|A SWYM|");
        for (int k = 0; k < n; k++) {
            lines.append(" SETL $").append(k).append(',').append(101 + k).append('|');
        }
        PagedMachine m = Tester.ran(lines + " POP " + x, 1);
        int stay = x > n ? n + 1 : x;
        long[] due = new long[Math.min(16, back + stay)];
        for (int i = 0; i < due.length; i++) {
            int of = i - back;
            due[i] = of < 0 ? i + 1 : of > 0 ? 100 + of : x > n ? 0 : 100 + x;
        }
        registers("behind POP " + x + " with rL " + n + " and " + back + " behind", m, due);
        Tester.due("depth", m.register(38), 0);
    }

    /** Writes, PUSHJ, POP and PUT rL in any order, against lists; POP goes on behind itself by rJ. */
    private static void againstModel(int seed) {
        ArrayList<Long> local = new ArrayList<>();
        ArrayList<Long> stack = new ArrayList<>();
        Random random = new Random(seed);
        StringBuilder lines = new StringBuilder();
        for (int i = 0; i < 60; i++) {
            int kind = random.nextInt(6);
            int x = random.nextInt(18);
            if (kind == 0) {
                lines.append(" PUSHJ $").append(x).append(",@+4|");
                push(local, stack, x);
            } else if (kind == 1 && !stack.isEmpty()) {
                lines.append(" GETA $20,@+12| PUT 3,$20| POP ").append(x).append('|');
                pop(local, stack, x);
            } else if (kind == 2 && x > 8) {
                lines.append(" SETL $20,").append(x - 9).append("| PUT 4,$20|");
                while (local.size() > x - 9) {
                    local.remove(local.size() - 1);
                }
            } else if (kind > 2) {
                int k = x % 16;
                lines.append(" SETL $").append(k).append(',').append(1000 + i).append('|');
                while (local.size() <= k) {
                    local.add(0L);
                }
                local.set(k, 1000L + i);
            }
        }
        PagedMachine m = Tester.ran(lines + " TRAP 0", 1);
        long[] due = new long[local.size()];
        for (int i = 0; i < due.length; i++) {
            due[i] = local.get(i);
        }
        registers("of the seed " + seed, m, due);
        Tester.due("depth of the seed " + seed, m.register(38), stack.size());
    }

    private static void push(List<Long> local, List<Long> stack, int x) {
        int away = x >= 16 ? local.size() : x;
        while (x < 16 && local.size() <= x) {
            local.add(0L);
        }
        stack.addAll(local.subList(0, away));
        stack.add((long) away);
        local.subList(0, Math.min(away + 1, local.size())).clear();
    }

    private static void pop(List<Long> local, List<Long> stack, int x) {
        int back = (int) (long) stack.remove(stack.size() - 1);
        List<Long> top = stack.subList(stack.size() - back, stack.size());
        List<Long> now = new ArrayList<>(top);
        top.clear();
        if (x > 0) {
            now.add(x > local.size() ? 0L : local.get(x - 1));
            now.addAll(local.subList(0, x > local.size() ? local.size() : x - 1));
        }
        local.clear();
        local.addAll(now.subList(0, Math.min(16, now.size())));
    }
}
