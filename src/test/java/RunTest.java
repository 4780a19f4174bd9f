/** Promises 9 (run), 10 (steps), 13 (outs), 14 (out) and 17 (digest); the ENDS and TRAPs. */
public final class RunTest {
    public static void main(String[] args) {
        steps();
        wrongSteps();
        newRun();
        opsThatAreNone();
        registersAbove();
        addresses();
        puts();
        putsTooMany();
        putsBeyond();
        takesLines();
        takesNone();
        takesBeyond();
        otherTraps();
        order();
        digest();
        Tester.finish("RunTest");
    }

    private static void steps() {
        PagedMachine m = Tester.assembled(" SETL $1,1| SETL $2,2| SETL $3,3| TRAP 0| SETL $4,4");
        Tester.due("run(0)", m.run(0), 0);
        Tester.due("steps", m.steps(), 0);
        Tester.due("nothing is touched", m.told(0), 0);
        Tester.due("run(2)", m.run(2), 0);
        Tester.due("steps", m.steps(), 2);
        Tester.due("the place", m.register(37), 8);
        Tester.due("run(1)", m.run(1), 0);
        Tester.due("told(5)", m.told(5), 0);
        Tester.due("run(20000)", m.run(20000), 1);
        Tester.due("steps, TRAP 0 too", m.steps(), 4);
        Tester.due("the place", m.register(37), 16);
        Tester.due("told(5)", m.told(5), 1);
        Tester.due("run again", m.run(5), 1);
        Tester.due("run(0) again", m.run(0), 1);
        Tester.due("steps", m.steps(), 4);
        Tester.due("$4", m.register(4), 0);
        m = Tester.assembled(" JMP @");
        Tester.due("run without an end", m.run(20000), 0);
        Tester.due("run without an end", m.run(20000), 0);
        Tester.due("steps", m.steps(), 40000);
    }

    private static void wrongSteps() {
        PagedMachine m = Tester.assembled(" JMP @");
        Tester.due("run(-1)", m.run(-1), -1);
        Tester.due("run(20001)", m.run(20001), -1);
        Tester.due("run(MIN)", m.run(Integer.MIN_VALUE), -1);
        Tester.due("run(MAX)", m.run(Integer.MAX_VALUE), -1);
        Tester.due("steps", m.steps(), 0);
        Tester.due("told(6)", m.told(6), 1);
        Tester.due("frames(3)", m.frames(3), 3);
        Tester.due("run, nothing is loaded", m.run(1), -1);
    }

    private static void newRun() {
        PagedMachine m = Tester.assembled(" PUSHJ $3,@+4| SETL $2,5| SETL $20,6| PUT 0,$20"
                + "| SETL $31,28| TRAP 1| TRAP 0| BYTE \"xyz\",0");
        Tester.input(m, "input");
        Tester.due("run", m.run(100), 1);
        Tester.due("depth", m.register(38), 4);
        Tester.due("outs", m.outs(), 3);
        Tester.due("assemble", Tester.assemble(m, " LOC 8\nMain SWYM\n"), 0);
        for (int k = 0; k <= 38; k++) {
            Tester.due("register(" + k + ") of a new run", m.register(k), k == 37 ? 8 : 0);
        }
        Tester.due("outs", m.outs(), 0);
        Tester.due("out(0)", m.out(0), -1);
        Tester.due("steps", m.steps(), 0);
        Tester.due("told(5)", m.told(5), 0);
        Tester.due("told(7)", m.told(7), 5);
    }

    /** One word as an instruction at 0, of which nothing may be done. */
    private static PagedMachine ends(long word, int end) {
        PagedMachine m = new PagedMachine();
        Tester.assemble(m, " TETRA " + word + "\n");
        Tester.due("run of " + Long.toHexString(word), m.run(1), end);
        boolean step = end == 0 || end == 1;
        Tester.due("steps of " + Long.toHexString(word), m.steps(), step ? 1 : 0);
        if (!step) {
            Tester.due("the place of " + Long.toHexString(word), m.register(37), 0);
            Tester.due("touched by " + Long.toHexString(word), m.told(0), 1);
        }
        return m;
    }

    private static boolean isOp(int op) {
        return op == 0 || op >= 2 && op <= 33 || op >= 36 && op <= 53 || op >= 60 && op <= 80;
    }

    private static void opsThatAreNone() {
        for (int op = 0; op < 256; op++) {
            long word = (long) op << 24;
            int end = op == 0 ? 1 : op == 68 ? 8 : isOp(op) ? 0 : 3;
            ends(word, end);
            Tester.due("told(5)", ends(word, end).told(5), end);
        }
    }

    private static void registersAbove() {
        for (int op = 2; op < 54; op++) {
            boolean neg = op == 32 || op == 33;
            if (isOp(op)) {
                ends((long) op << 24 | 0x1F1F00, 0);
                ends((long) op << 24 | 0x200000, 3);
                ends((long) op << 24 | 0x002000, neg ? 0 : 3);
                ends((long) op << 24 | 0x000020, op % 2 == 0 ? 3 : 0);
                ends((long) op << 24 | 0x0000FF, op % 2 == 0 ? 3 : 0);
            }
        }
        for (int op = 60; op < 66; op++) {
            ends((long) op << 24 | 0x1FFFFF, 0);
            ends((long) op << 24 | 0x20FFFF, 3);
        }
        ends(0x42FFFFFFL, 0);
        ends(0x43FFFFFFL, 0);
        ends(0x451FFFFFL, 0);
        ends(0x45200000L, 3);
        for (int op = 70; op < 78; op++) {
            ends((long) op << 24 | 0x1FFFFF, 0);
            ends((long) op << 24 | 0x20FFFF, 3);
        }
        ends(0x4E1FFF04L, 0);
        ends(0x4E1F0005L, 3);
        ends(0x4E200004L, 3);
        ends(0x4F04FF1FL, 0);
        ends(0x4F05001FL, 3);
        ends(0x4F040020L, 3);
        ends(0x50FFFFFFL, 0);
        ends(0x00FFFF00L, 1);
    }

    private static void addresses() {
        String[] names = {"LDB", "LDBU", "LDT", "LDO", "STB", "STT", "STO"};
        for (String name : names) {
            PagedMachine m = Tester.ran(" SETML $1,1| " + name + " $2,$1", 4);
            Tester.due(name + " at 65536: steps", m.steps(), 1);
            Tester.due(name + " at 65536: the place", m.register(37), 4);
            Tester.due(name + " at 65536: rL", m.register(36), 2);
            Tester.due(name + " at 65536: touched", m.told(0), 1);
            Tester.ran(" NEG $1,0,1| " + name + " $2,$1", 4);
            Tester.ran(" NEG $1,0,1| " + name + " $2,$1,1| TRAP 0", 1);
            Tester.ran(" SETL $1,65535| " + name + " $2,$1| TRAP 0", 1);
        }
        PagedMachine m = Tester.ran(" LOC 65532|Main SWYM", 4);
        Tester.due("behind the last address: steps", m.steps(), 1);
        Tester.due("behind the last address: the place", m.register(37), 65536);
        Tester.due("behind the last address: touched", m.told(0), 1);
        m = Tester.ran(" NEG $0,0,1| GO $1,$0", 4);
        Tester.due("below 0: steps", m.steps(), 2);
        Tester.due("below 0: the place", m.register(37), -1);
        m = Tester.ran(" SETL $0,65535| GO $1,$0", 1);
        Tester.due("65535 is in: the place", m.register(37), 65536);
    }

    private static void puts() {
        PagedMachine m = Tester.ran("S BYTE \"Hello\",'\u00E9',10,0,\"no\"|Main GETA $31,0| TRAP 1| TRAP 9,9,1"
                + "| SETL $31,7| TRAP 1| TRAP 0", 1);
        Tester.dueText("what is OUT", Tester.out(m), "Hello\u00E9\nHello\u00E9\n");
        Tester.due("outs", m.outs(), 14);
        Tester.due("out(-1)", m.out(-1), -1);
        Tester.due("out(5)", m.out(5), 233);
        Tester.due("out(13)", m.out(13), 10);
        Tester.due("out(14)", m.out(14), -1);
        Tester.due("out(MIN)", m.out(Integer.MIN_VALUE), -1);
        Tester.due("out(MAX)", m.out(Integer.MAX_VALUE), -1);
        Tester.due("steps", m.steps(), 6);
        Tester.due("$31", m.register(31), 7);
    }

    private static void putsTooMany() {
        PagedMachine m = Tester.ran("S BYTE \"0123456789abcdefghijklmno\",0|Main GETA $31,0"
                + "| SETL $1,40|A TRAP 1| SUB $1,$1,1| BP $1,A| GETA $31,S2|B TRAP 1| TRAP 0|S2 BYTE 0", 1);
        Tester.due("1000 are fine", m.outs(), 1000);
        m = Tester.ran("S BYTE \"0123456789abcdefghijklmn\",0|Main GETA $31,0|A TRAP 1| JMP A", 7);
        Tester.due("1000 of them", m.outs(), 1000);
        Tester.due("the last one", m.out(999), 'f');
        Tester.due("out(1000)", m.out(1000), -1);
        Tester.due("no step", m.steps(), 1 + 41 * 2);
        Tester.due("the place", m.register(37), 32);
        Tester.due("told(5)", m.told(5), 7);
    }

    private static void putsBeyond() {
        PagedMachine m = Tester.ran(" LOC 65533| BYTE \"end\"| LOC 0|Main SETL $31,65533| TRAP 1", 4);
        Tester.dueText("what was OUT stays", Tester.out(m), "end");
        Tester.due("steps", m.steps(), 1);
        Tester.due("faults", m.told(0), 2);
        m = Tester.ran(" NEG $31,0,1| TRAP 1", 4);
        Tester.due("outs", m.outs(), 0);
    }

    private static PagedMachine line(String input, int limit, long count, long octa, int left) {
        PagedMachine m = Tester.assembled(" SETL $30," + limit + "| SETL $31,128| TRAP 7,7,2| TRAP 0"
                + "| LOC 128| OCTA 0-1,0-1");
        Tester.input(m, input);
        String what = " of a line of at most " + limit + " from " + input;
        Tester.due("run" + what, m.run(100), 1);
        Tester.due("$31" + what, m.register(31), count);
        Tester.due("octa" + what, m.octa(128), octa);
        Tester.due("left" + what, m.told(7), left);
        Tester.due("steps" + what, m.steps(), 4);
        return m;
    }

    private static void takesLines() {
        line("ab\ncd\n", 100, 3, 0x61620A00FFFFFFFFL, 3);
        line("ab\ncd\n", 4, 3, 0x61620A00FFFFFFFFL, 3);
        line("ab\ncd\n", 3, 2, 0x616200FFFFFFFFFFL, 4);
        line("ab\ncd\n", 2, 1, 0x6100FFFFFFFFFFFFL, 5);
        line("ab\ncd\n", 1, 0, 0x00FFFFFFFFFFFFFFL, 6);
        line("ab", 100, 2, 0x616200FFFFFFFFFFL, 0);
        line("\n\n", 100, 1, 0x0A00FFFFFFFFFFFFL, 1);
        line("\0\u00FF\n", 100, 3, 0x00FF0A00FFFFFFFFL, 0);
    }

    private static void takesNone() {
        PagedMachine m = line("", 100, -1, -1, 0);
        Tester.due("nothing is touched", m.told(0), 1);
        line("ab\n", 0, -1, -1, 3);
        m = Tester.assembled(" NEG $30,0,5| SETL $31,128| TRAP 2| TRAP 0");
        Tester.input(m, "ab\n");
        Tester.due("run", m.run(9), 1);
        Tester.due("$30 below 1", m.register(31), -1);
        Tester.due("left", m.told(7), 3);
        m = Tester.assembled(" SETL $30,5| NEG $31,0,9| TRAP 2| TRAP 0");
        Tester.due("at its end, no address is asked", m.run(9), 1);
        Tester.due("$31", m.register(31), -1);
        Tester.due("more comes", Tester.input(m, "x"), 1);
    }

    private static void takesBeyond() {
        PagedMachine m = Tester.assembled(" SETL $30,100| SETL $31,65534| TRAP 2");
        Tester.input(m, "abcd\n");
        Tester.due("run", m.run(9), 4);
        Tester.due("what came stays", m.octa(65528), 0x6162);
        Tester.due("$31 is as it was", m.register(31), 65534);
        Tester.due("steps", m.steps(), 2);
        m = Tester.assembled(" SETL $30,100| SETL $31,65534| TRAP 2");
        Tester.input(m, "a\n");
        Tester.due("no room for the 0", m.run(9), 4);
        Tester.due("what came stays", m.octa(65528), 0x610A);
        Tester.due("left", m.told(7), 0);
        m = Tester.assembled(" SETL $30,100| NEG $31,0,1| TRAP 2");
        Tester.input(m, "a\n");
        Tester.due("below 0", m.run(9), 4);
        Tester.due("left", m.told(7), 2);
    }

    private static void otherTraps() {
        for (int z = 3; z < 256; z++) {
            ends(z, 6);
        }
        ends(0x00010203, 6);
    }

    /** Own address, op, registers, special, stack, address. */
    private static void order() {
        PagedMachine m = Tester.ran(" SETML $1,1| TETRA #24010128", 3);
        Tester.due("a register ahead of the address", m.told(0), 1);
        Tester.ran(" SETML $1,1| GO $2,$1", 4);
        Tester.due("a special ahead of the stack", StackTest.full(" GET $15,9", 3).register(38), 597);
        Tester.due("the stack ahead of the address", StackTest.full(" NEG $20,0,1| LDB $15,$20", 5).register(38), 597);
    }

    private static PagedMachine toDigest() {
        return Tester.ran("S BYTE \"Hello\",0|Main PUSHJ $4,A|A SETL $2,9| MULU $20,$2,$2| TRAP 1"
                + "| SETL $1,#4000| STO $2,$1| TRAP 0", 1);
    }

    private static PagedMachine toDigest(int frames) {
        PagedMachine m = toDigest();
        Tester.due("frames", m.frames(frames), frames);
        return m;
    }

    private static void digest() {
        PagedMachine m = toDigest();
        long digest = m.digest();
        Tester.due("digest", digest, Tester.digestOf(RunTest::toDigest, 16));
        Tester.due("digest leaves all", m.digest(), digest);
        Tester.due("digest of 64 frames", toDigest(64).digest(), Tester.digestOf(() -> toDigest(64), 64));
        Tester.due("digest of 2 frames", toDigest(2).digest(), Tester.digestOf(() -> toDigest(2), 2));
    }
}
