import java.util.Arrays;

/** A machine of pages, frames and a stack of registers, with its assembler and its loader. */
public final class PagedMachine {
    private static final int TAPE_MOST = 20000;
    private static final int STEPS_MOST = 20000;
    private static final int BYTES = 65536;
    private static final int OCTAS = 8192;
    private static final int PAGES = 1024;
    private static final int PAGE_SHIFT = 6;
    private static final int FRAMES_LEAST = 2;
    private static final int FRAMES_MOST = 64;
    private static final int FRAMES_FIRST = 16;

    private static final int REGISTERS = 32;
    private static final int FIRST_GLOBAL = 16;
    private static final int SPECIALS = 5;
    private static final int LENGTH_REGISTER = 4;

    private static final int END_TRAP = 1;
    private static final int END_OP = 3;
    private static final int END_ADDRESS = 4;
    private static final int END_STACK = 5;
    private static final int END_NO_TRAP = 6;
    private static final int END_OUT = 7;
    private static final int END_EMPTY = 8;

    private static final int FAULT_STANDS = 1;
    private static final int FAULT_LABEL = 2;
    private static final int FAULT_KIND = 3;
    private static final int FAULT_FIT = 4;
    private static final int FAULT_LAID = 5;
    private static final int FAULT_LABELS = 6;
    private static final int FAULT_ENDS = 11;
    private static final int FAULT_RECORD = 12;
    private static final int FAULT_ADDRESS = 13;
    private static final int FAULT_OFFSET = 14;

    private final byte[] tape = new byte[TAPE_MOST];
    private final Image image = new Image();
    private final Memory memory = new Memory();
    private final Registers registers = new Registers();
    private final Channel channel = new Channel();
    private final Processor processor = new Processor(memory, registers, channel);
    private final Reader reader = new Reader(tape);
    private final Assembler assembler = new Assembler(reader, image);
    private final Loader loader = new Loader(tape, image);
    private int taped;
    private boolean loaded;
    private int faultNumber;
    private int faultPlace = -1;

    public PagedMachine() {
    }

    public int feed(int a, int b, int c, int d, int e) {
        if (taped + 20 > TAPE_MOST) {
            return -1;
        }
        tapeInt(a);
        tapeInt(b);
        tapeInt(c);
        tapeInt(d);
        tapeInt(e);
        return taped;
    }

    private void tapeInt(int number) {
        for (int shift = 24; shift >= 0; shift -= 8) {
            if (taped >= 0 && taped < TAPE_MOST) {
                tape[taped] = (byte) (number >>> shift);
                taped++;
            }
        }
    }

    public int end(int n) {
        if (n < 0 || n > taped) {
            return -1;
        }
        taped = n;
        return n;
    }

    public int frames(int f) {
        if (f < FRAMES_LEAST || f > FRAMES_MOST) {
            return -1;
        }
        image.clear();
        memory.resize(f);
        memory.take(image);
        loaded = false;
        return f;
    }

    public int assemble() {
        boolean right = assembler.translate(taped);
        taped = 0;
        noteFault(reader.fault, reader.place);
        loaded = right;
        if (!right) {
            return -1;
        }
        memory.take(image);
        beginRun();
        return 0;
    }

    public int load() {
        boolean right = loader.readFile(taped);
        taped = 0;
        noteFault(loader.fault, loader.place);
        loaded = right;
        memory.take(image);
        if (!right) {
            return -1;
        }
        beginRun();
        return 0;
    }

    private void noteFault(int number, int place) {
        faultNumber = number;
        faultPlace = number == 0 ? -1 : place;
    }

    private void beginRun() {
        registers.clear();
        channel.clearOut();
        processor.begin(image.start);
    }

    public int fault(int what) {
        if (what == 0) {
            return faultNumber;
        }
        return what == 1 ? faultPlace : 0;
    }

    public int input() {
        if (!channel.append(tape, taped)) {
            return -1;
        }
        taped = 0;
        return channel.left;
    }

    public int run(int steps) {
        if (!loaded || steps < 0 || steps > STEPS_MOST) {
            return -1;
        }
        return processor.go(steps);
    }

    public int steps() {
        return processor.taken;
    }

    public long register(int k) {
        if (k < REGISTERS) {
            return registers.read(k);
        }
        if (k < REGISTERS + SPECIALS) {
            return registers.readSpecial(k - REGISTERS);
        }
        if (k == 37) {
            return processor.place;
        }
        return k == 38 ? registers.depth : 0;
    }

    public long octa(int address) {
        return memory.store.part(address, 8);
    }

    public int outs() {
        return channel.outCount;
    }

    public int out(int i) {
        return channel.outAt(i);
    }

    public int told(int what) {
        switch (what) {
            case 0:
                return memory.faults;
            case 1:
                return memory.reads;
            case 2:
                return memory.writes;
            case 3:
                return memory.misses;
            case 4:
                return memory.hand;
            case 5:
                return processor.ending;
            case 6:
                return loaded ? 1 : 0;
            case 7:
                return channel.left;
            default:
                return 0;
        }
    }

    public int page(int frame) {
        return memory.pageOf(frame);
    }

    public long digest() {
        long d = 7;
        for (int k = 0; k <= 38; k++) {
            d = d * 31 + register(k);
        }
        d = d * 31 + steps();
        for (int what = 0; what <= 7; what++) {
            d = d * 31 + told(what);
        }
        d = d * 31 + outs();
        for (int i = 0; i < outs(); i++) {
            d = d * 31 + out(i);
        }
        for (int frame = 0; frame < memory.frameCount; frame++) {
            d = d * 31 + page(frame);
        }
        for (int address = 0; address < BYTES; address += 8) {
            d = d * 31 + octa(address);
        }
        return d;
    }

    private static boolean isAddress(long address) {
        return address >= 0 && address < BYTES;
    }

    /** Whether a distance is 4 times an offset of so many bits with sign. */
    private static boolean isOffset(long distance, int bits) {
        long half = 1L << bits - 1;
        long offset = distance >> 2;
        return (distance & 3) == 0 && offset >= -half && offset < half;
    }

    /** Bytes, held eight in a long; numbers of 1, 2, 4, 8 bytes lie at multiples of their size. */
    private static final class Store {
        private final long[] octas = new long[OCTAS];

        private Store() {
        }

        private long part(int address, int size) {
            if (address < 0 || address >= BYTES) {
                return 0;
            }
            long octa = octas[address >> 3];
            int shift = 8 * (8 - size - (address & 7 & -size));
            return size == 8 ? octa : octa >>> shift & (1L << 8 * size) - 1;
        }

        private void put(int address, int size, long value) {
            if (address < 0 || address >= BYTES) {
                return;
            }
            int at = address >> 3;
            int shift = 8 * (8 - size - (address & 7 & -size));
            long mask = size == 8 ? -1 : (1L << 8 * size) - 1 << shift;
            octas[at] = octas[at] & ~mask | value << shift & mask;
        }
    }

    /** What a text or a file lays, before the memory takes it. */
    private static final class Image {
        private final Store store = new Store();
        private final byte[] laid = new byte[PAGES];
        private int start;

        private Image() {
        }

        private void clear() {
            Arrays.fill(store.octas, 0L);
            Arrays.fill(laid, (byte) 0);
            start = 0;
        }

        private void put(int address, int size, long value) {
            if (isAddress(address)) {
                store.put(address, size, value);
                laid[address >> PAGE_SHIFT] = 1;
            }
        }

        /** The offset of a branch (16 bits) or a jump (24 bits) in the instruction at an address. */
        private void putOffset(int address, int bits, long offset) {
            if (bits == 24) {
                put(address + 1, 1, offset >> 16);
            }
            put(address + 2, 2, offset);
        }
    }

    /** Pages, of which a few are in frames; the clock's hand chooses which one leaves. */
    private static final class Memory {
        private static final int KNOWN_MOST = 4;

        private final Store store = new Store();
        private final byte[] onDisk = new byte[PAGES];
        /** The frame of each page plus 1, 0 if none has it. */
        private final byte[] frameOf = new byte[PAGES];
        private final int[] pageIn = new int[FRAMES_MOST];
        private final byte[] touched = new byte[FRAMES_MOST];
        private final byte[] written = new byte[FRAMES_MOST];
        private final int[] known = new int[KNOWN_MOST];
        private int knownCount;
        private int frameCount = FRAMES_FIRST;
        private int used;
        private int hand;
        private int faults;
        private int reads;
        private int writes;
        private int misses;

        private Memory() {
        }

        private void resize(int count) {
            frameCount = Math.max(FRAMES_LEAST, Math.min(count, FRAMES_MOST));
        }

        private void take(Image image) {
            System.arraycopy(image.store.octas, 0, store.octas, 0, OCTAS);
            System.arraycopy(image.laid, 0, onDisk, 0, PAGES);
            Arrays.fill(frameOf, (byte) 0);
            Arrays.fill(touched, (byte) 0);
            Arrays.fill(written, (byte) 0);
            knownCount = 0;
            used = 0;
            hand = 0;
            faults = 0;
            reads = 0;
            writes = 0;
            misses = 0;
        }

        private int pageOf(int frame) {
            return frame >= 0 && frame < used && frame < FRAMES_MOST ? pageIn[frame] : -1;
        }

        private void touch(int address, boolean writing) {
            if (!isAddress(address)) {
                return;
            }
            int page = address >> PAGE_SHIFT;
            if (frameOf[page] == 0) {
                bringIn(page);
            }
            int frame = frameOf[page] - 1;
            if (frame >= 0 && frame < FRAMES_MOST) {
                touched[frame] = 1;
                if (writing) {
                    written[frame] = 1;
                }
            }
            know(page);
        }

        private void bringIn(int page) {
            faults++;
            int frame = used;
            if (used < frameCount) {
                used++;
            } else {
                frame = chooseFrame();
                sendOut(frame);
            }
            if (frame < 0 || frame >= FRAMES_MOST || page < 0 || page >= PAGES) {
                return;
            }
            reads += onDisk[page];
            onDisk[page] = 0;
            pageIn[frame] = page;
            frameOf[page] = (byte) (frame + 1);
            written[frame] = 0;
        }

        /** Two rounds are enough: the first one leaves every frame untouched. */
        private int chooseFrame() {
            int frame = hand;
            for (int moves = 0; moves < 2 * FRAMES_MOST; moves++) {
                if (frame < 0 || frame >= FRAMES_MOST || touched[frame] == 0) {
                    break;
                }
                touched[frame] = 0;
                frame = frame + 1 < frameCount ? frame + 1 : 0;
            }
            hand = frame + 1 < frameCount ? frame + 1 : 0;
            return frame;
        }

        private void sendOut(int frame) {
            if (frame < 0 || frame >= FRAMES_MOST) {
                return;
            }
            int page = pageIn[frame];
            if (page < 0 || page >= PAGES) {
                return;
            }
            writes += written[frame];
            onDisk[page] = 1;
            frameOf[page] = 0;
            int kept = 0;
            for (int i = 0; i < knownCount && i < KNOWN_MOST; i++) {
                if (known[i] != page) {
                    known[kept] = known[i];
                    kept++;
                }
            }
            knownCount = kept;
        }

        private void know(int page) {
            for (int i = 0; i < knownCount && i < KNOWN_MOST; i++) {
                if (known[i] == page) {
                    return;
                }
            }
            misses++;
            if (knownCount == KNOWN_MOST) {
                System.arraycopy(known, 1, known, 0, KNOWN_MOST - 1);
                knownCount--;
            }
            if (knownCount >= 0 && knownCount < KNOWN_MOST) {
                known[knownCount] = page;
                knownCount++;
            }
        }
    }

    /** The registers, the special ones, and the stack of those that calls have put away. */
    private static final class Registers {
        private static final int STACK_MOST = 600;
        private static final int DIVIDEND = 0;
        private static final int HIGH = 1;
        private static final int REMAINDER = 2;
        private static final int JUMP = 3;

        private final long[] values = new long[REGISTERS];
        private final long[] specials = new long[LENGTH_REGISTER];
        private final long[] stack = new long[STACK_MOST];
        private int locals;
        private int depth;

        private Registers() {
        }

        private void clear() {
            Arrays.fill(values, 0L);
            Arrays.fill(specials, 0L);
            locals = 0;
            depth = 0;
        }

        private boolean isMarginal(int k) {
            return k < FIRST_GLOBAL && k >= locals;
        }

        private long read(int k) {
            return k < 0 || k >= REGISTERS || isMarginal(k) ? 0 : values[k];
        }

        private boolean hasRoomFor(int k) {
            return !isMarginal(k) || depth + k + 1 <= STACK_MOST;
        }

        private void write(int k, long value) {
            if (k < 0 || k >= REGISTERS) {
                return;
            }
            if (isMarginal(k)) {
                for (int i = locals; i < k; i++) {
                    values[i] = 0;
                }
                locals = k + 1;
            }
            values[k] = value;
        }

        private long readSpecial(int k) {
            if (k >= 0 && k < LENGTH_REGISTER) {
                return specials[k];
            }
            return k == LENGTH_REGISTER ? locals : 0;
        }

        private void writeSpecial(int k, long value) {
            if (k >= 0 && k < LENGTH_REGISTER) {
                specials[k] = value;
            } else if (k == LENGTH_REGISTER && value >= 0 && value < locals) {
                locals = (int) value;
            }
        }

        /** Answers false, and does nothing, if the stack would have too many. */
        private boolean push(int x) {
            boolean all = x >= FIRST_GLOBAL;
            int most = all ? locals + 1 : Math.max(locals, x + 1);
            if (x < 0 || depth + most > STACK_MOST) {
                return false;
            }
            int away = all ? locals : x;
            if (!all && isMarginal(x)) {
                write(x, 0);
            }
            System.arraycopy(values, 0, stack, depth, away);
            depth += away;
            stack[depth] = away;
            depth++;
            int left = Math.max(0, locals - away - 1);
            if (left > 0) {
                System.arraycopy(values, away + 1, values, 0, left);
            }
            locals = left;
            return true;
        }

        /** Answers false, and does nothing, if the stack is empty. */
        private boolean pop(int x) {
            if (depth <= 0 || depth > STACK_MOST) {
                return false;
            }
            long top = stack[depth - 1];
            if (top < 0 || top > FIRST_GLOBAL || top > depth - 1) {
                return false;
            }
            int back = (int) top;
            int kept = Math.min(x, locals + 1);
            long main = x > 0 && x <= locals ? read(x - 1) : 0;
            for (int i = kept - 2; i >= 0; i--) {
                moveUp(i, back + 1 + i);
            }
            if (kept > 0 && back < FIRST_GLOBAL) {
                values[back] = main;
            }
            depth -= back + 1;
            System.arraycopy(stack, depth, values, 0, back);
            locals = Math.min(FIRST_GLOBAL, back + kept);
            return true;
        }

        private void moveUp(int from, int to) {
            if (from >= 0 && from < FIRST_GLOBAL && to >= 0 && to < FIRST_GLOBAL) {
                values[to] = values[from];
            }
        }
    }

    /** The bytes that wait to come in and those that went out. */
    private static final class Channel {
        private static final int INPUT_MOST = 4000;
        private static final int OUT_MOST = 1000;

        private final byte[] waiting = new byte[INPUT_MOST];
        private final byte[] gone = new byte[OUT_MOST];
        private int from;
        private int left;
        private int outCount;

        private Channel() {
        }

        private boolean append(byte[] bytes, int count) {
            if (count < 0 || count > bytes.length || left + count > INPUT_MOST) {
                return false;
            }
            System.arraycopy(waiting, from, waiting, 0, left);
            System.arraycopy(bytes, 0, waiting, left, count);
            from = 0;
            left += count;
            return true;
        }

        /** The next byte that waits; only asked if one does. */
        private int takeByte() {
            if (left <= 0 || from < 0 || from >= INPUT_MOST) {
                return 0;
            }
            int taken = waiting[from] & 255;
            from++;
            left--;
            return taken;
        }

        private void clearOut() {
            outCount = 0;
        }

        private boolean put(int value) {
            if (outCount < 0 || outCount >= OUT_MOST) {
                return false;
            }
            gone[outCount] = (byte) value;
            outCount++;
            return true;
        }

        private int outAt(int i) {
            return i >= 0 && i < outCount && i < OUT_MOST ? gone[i] & 255 : -1;
        }
    }

    /** Does the instructions. */
    private static final class Processor {
        private static final int FIRST_ACCESS = 36;
        private static final int FIRST_STORE = 44;
        private static final int LDA = 50;
        private static final int GO = 52;
        private static final int FIRST_BRANCH = 60;
        private static final int JMP = 66;
        private static final int PUSHJ = 67;
        private static final int GETA = 69;
        private static final int FIRST_SET = 70;
        private static final int FIRST_INC = 74;
        private static final int GET = 78;
        private static final int PUT = 79;
        private static final int SWYM = 80;
        private static final int NEG = 32;
        private static final int LINE_LIMIT_REGISTER = 30;
        private static final int POINTER_REGISTER = 31;

        private final Memory memory;
        private final Registers registers;
        private final Channel channel;
        private long place;
        private int taken;
        private int ending;
        private int where;
        private long next;
        private int op;
        private int x;
        private int y;
        private int z;

        private Processor(Memory memory, Registers registers, Channel channel) {
            this.memory = memory;
            this.registers = registers;
            this.channel = channel;
        }

        private void begin(int start) {
            place = start;
            taken = 0;
            ending = 0;
        }

        private int go(int steps) {
            for (int done = 0; done < steps && ending == 0; done++) {
                doNext();
            }
            return ending;
        }

        private void doNext() {
            if (!isAddress(place)) {
                ending = END_ADDRESS;
                return;
            }
            where = (int) place & -4;
            memory.touch(where, false);
            decode((int) memory.store.part(where, 4));
            next = where + 4L;
            ending = lookAhead();
            if (ending == 0 && op == 0) {
                trap();
            } else if (ending == 0) {
                perform();
            }
            if (ending == 0 || ending == END_TRAP) {
                place = next;
                taken++;
            }
        }

        private void decode(int word) {
            op = word >>> 24;
            x = word >> 16 & 255;
            y = word >> 8 & 255;
            z = word & 255;
        }

        private int yz() {
            return y << 8 | z;
        }

        private long branchTarget() {
            return where + 4L * (short) yz();
        }

        private long jumpTarget() {
            return where + 4L * ((x << 24 | y << 16 | z << 8) >> 8);
        }

        /** The end that the instruction's own bytes, or no room for $X, would make; else 0. */
        private int lookAhead() {
            if (!isOp() || !hasGoodRegisters()) {
                return END_OP;
            }
            if (op == GET && z >= SPECIALS || op == PUT && x >= SPECIALS) {
                return END_OP;
            }
            return writesX() && !registers.hasRoomFor(x) ? END_STACK : 0;
        }

        private boolean isOp() {
            return op == 0 || op >= 2 && op < 34 || op >= FIRST_ACCESS && op < 54
                    || op >= FIRST_BRANCH && op <= SWYM;
        }

        private boolean isThreeFold() {
            return op >= 2 && op < 54;
        }

        private boolean namesX() {
            return isThreeFold() || op >= FIRST_BRANCH && op < JMP || op >= GETA && op <= GET;
        }

        private boolean namesY() {
            return isThreeFold() && op != NEG && op != NEG + 1;
        }

        private boolean namesZ() {
            return isThreeFold() && (op & 1) == 0 || op == PUT;
        }

        private boolean hasGoodRegisters() {
            return !(namesX() && x >= REGISTERS) && !(namesY() && y >= REGISTERS)
                    && !(namesZ() && z >= REGISTERS);
        }

        private boolean writesX() {
            boolean stores = op >= FIRST_STORE && op < LDA;
            return isThreeFold() && !stores || op >= GETA && op <= GET;
        }

        private void perform() {
            if (op < FIRST_ACCESS) {
                registers.write(x, compute(op & -2, registers.read(y), zValue()));
            } else if (op < LDA) {
                access(registers.read(y) + zValue());
            } else if (op < GO) {
                registers.write(x, registers.read(y) + zValue());
            } else if (op < FIRST_BRANCH) {
                next = registers.read(y) + zValue();
                registers.write(x, where + 4L);
            } else if (op < JMP) {
                next = branches(registers.read(x)) ? branchTarget() : next;
            } else if (op < FIRST_SET) {
                jump();
            } else {
                setOrMove();
            }
        }

        private long zValue() {
            return (op & 1) == 0 ? registers.read(z) : z;
        }

        private long compute(int kind, long a, long b) {
            switch (kind) {
                case 2:
                    return a * b;
                case 4:
                    return divide(a, b);
                case 6:
                    return a + b;
                case 8:
                    return a - b;
                case 10:
                    return a < b ? -1 : a > b ? 1 : 0;
                case 12:
                    return isBelow(a, b) ? -1 : a == b ? 0 : 1;
                case 14:
                    registers.writeSpecial(Registers.HIGH, upperProduct(a, b));
                    return a * b;
                case 16:
                    return divideLong(a, b);
                case 18:
                    return a & b;
                case 20:
                    return a | b;
                case 22:
                    return a ^ b;
                case 24:
                    return a & ~b;
                case 26:
                    return b < 0 || b > 63 ? 0 : a << (int) b;
                case 28:
                    return b < 0 || b > 63 ? a >> 63 : a >> (int) b;
                case 30:
                    return b < 0 || b > 63 ? 0 : a >>> (int) b;
                default:
                    return y - b;
            }
        }

        private static boolean isBelow(long a, long b) {
            return a + Long.MIN_VALUE < b + Long.MIN_VALUE;
        }

        private long divide(long a, long b) {
            if (b == 0) {
                registers.writeSpecial(Registers.REMAINDER, a);
                return 0;
            }
            long quotient = Math.floorDiv(a, b);
            registers.writeSpecial(Registers.REMAINDER, a - quotient * b);
            return quotient;
        }

        private static long upperProduct(long a, long b) {
            long aLow = a & 0xFFFFFFFFL;
            long aHigh = a >>> 32;
            long bLow = b & 0xFFFFFFFFL;
            long bHigh = b >>> 32;
            long middle = aHigh * bLow + (aLow * bLow >>> 32);
            long other = aLow * bHigh + (middle & 0xFFFFFFFFL);
            return aHigh * bHigh + (middle >>> 32) + (other >>> 32);
        }

        /** Bit by bit, as a long has no room for the 128 bits. */
        private long divideLong(long low, long divisor) {
            long rest = registers.readSpecial(Registers.DIVIDEND);
            if (!isBelow(rest, divisor)) {
                registers.writeSpecial(Registers.REMAINDER, low);
                return rest;
            }
            long quotient = 0;
            for (int bit = 63; bit >= 0; bit--) {
                boolean carries = rest < 0;
                rest = rest << 1 | low >>> bit & 1;
                quotient <<= 1;
                if (carries || !isBelow(rest, divisor)) {
                    rest -= divisor;
                    quotient |= 1;
                }
            }
            registers.writeSpecial(Registers.REMAINDER, rest);
            return quotient;
        }

        private void access(long address) {
            if (!isAddress(address)) {
                ending = END_ADDRESS;
                return;
            }
            int at = (int) address;
            boolean stores = op >= FIRST_STORE;
            memory.touch(at, stores);
            if (stores) {
                int size = op < 46 ? 1 : op < 48 ? 4 : 8;
                memory.store.put(at, size, registers.read(x));
            } else if (op < 38) {
                registers.write(x, (byte) memory.store.part(at, 1));
            } else if (op < 40) {
                registers.write(x, memory.store.part(at, 1));
            } else if (op < 42) {
                registers.write(x, (int) memory.store.part(at, 4));
            } else {
                registers.write(x, memory.store.part(at, 8));
            }
        }

        private boolean branches(long value) {
            switch (op - FIRST_BRANCH) {
                case 0:
                    return value < 0;
                case 1:
                    return value == 0;
                case 2:
                    return value > 0;
                case 3:
                    return value >= 0;
                case 4:
                    return value != 0;
                default:
                    return value <= 0;
            }
        }

        private void jump() {
            if (op == JMP) {
                next = jumpTarget();
            } else if (op == GETA) {
                registers.write(x, branchTarget());
            } else if (op == PUSHJ) {
                if (!registers.push(x)) {
                    ending = END_STACK;
                    return;
                }
                registers.writeSpecial(Registers.JUMP, where + 4L);
                next = branchTarget();
            } else if (!registers.pop(x)) {
                ending = END_EMPTY;
            } else {
                next = registers.readSpecial(Registers.JUMP) + 4L * yz();
            }
        }

        private void setOrMove() {
            if (op < FIRST_INC) {
                registers.write(x, (long) yz() << 16 * (op - FIRST_SET));
            } else if (op < GET) {
                registers.write(x, registers.read(x) + ((long) yz() << 16 * (op - FIRST_INC)));
            } else if (op == GET) {
                registers.write(x, registers.readSpecial(z));
            } else if (op == PUT) {
                registers.writeSpecial(x, registers.read(z));
            }
        }

        private void trap() {
            if (z == 0) {
                ending = END_TRAP;
            } else if (z == 1) {
                putOut();
            } else if (z == 2) {
                takeLine();
            } else {
                ending = END_NO_TRAP;
            }
        }

        private void putOut() {
            long at = registers.read(POINTER_REGISTER);
            for (int count = 0; count <= BYTES; count++) {
                if (!isAddress(at)) {
                    ending = END_ADDRESS;
                    return;
                }
                memory.touch((int) at, false);
                int value = (int) memory.store.part((int) at, 1);
                if (value == 0) {
                    return;
                }
                if (!channel.put(value)) {
                    ending = END_OUT;
                    return;
                }
                at++;
            }
        }

        private void takeLine() {
            long limit = registers.read(LINE_LIMIT_REGISTER);
            if (limit < 1 || channel.left == 0) {
                registers.write(POINTER_REGISTER, -1);
                return;
            }
            long at = registers.read(POINTER_REGISTER);
            int count = 0;
            boolean open = true;
            for (int bytes = 0; bytes <= BYTES; bytes++) {
                if (!isAddress(at + count)) {
                    ending = END_ADDRESS;
                    return;
                }
                boolean comes = open && count < limit - 1 && channel.left > 0;
                int value = comes ? channel.takeByte() : 0;
                int to = (int) at + count;
                memory.touch(to, true);
                memory.store.put(to, 1, value);
                if (!comes) {
                    registers.write(POINTER_REGISTER, count);
                    return;
                }
                count++;
                open = value != '\n';
            }
        }
    }

    /** Reads a text byte by byte and keeps the first fault that is seen. */
    private static final class Reader {
        private static final int LINE_END = '\n';
        private static final int NAME_MOST = 12;
        private static final int HEX_MOST = 16;

        private final byte[] text;
        private int length;
        private int at;
        private int fault;
        private int place;
        /** The name read last: six letters or digits of six bits each in either part. */
        private long front;
        private long back;

        private Reader(byte[] text) {
            this.text = text;
        }

        private void open(int count) {
            length = Math.max(0, Math.min(count, text.length));
            at = 0;
            fault = 0;
            place = -1;
        }

        /** The byte here; the text's end reads as a line's end. */
        private int peek() {
            return at >= 0 && at < length && at < text.length ? text[at] & 255 : LINE_END;
        }

        private boolean isAtLineEnd() {
            return peek() == LINE_END;
        }

        /** Answers false, so that a reading method can end with it. */
        private boolean fail(int number, int where) {
            if (fault == 0) {
                fault = number;
                place = where;
            }
            return false;
        }

        private void skipBlanks() {
            for (int left = length - at; left > 0 && peek() == ' '; left--) {
                at++;
            }
        }

        private void skipLine() {
            for (int left = length - at; left > 0 && peek() != LINE_END; left--) {
                at++;
            }
            at++;
        }

        /** Six bits for a letter or a digit, none of them 0; 0 for another byte. */
        private static int nameBits(int value) {
            if (value >= '0' && value <= '9') {
                return value - '0' + 1;
            }
            if (value >= 'A' && value <= 'Z') {
                return value - 'A' + 11;
            }
            return value >= 'a' && value <= 'z' ? value - 'a' + 37 : 0;
        }

        private boolean isAtLetter() {
            return nameBits(peek()) > 10;
        }

        private boolean readName() {
            int first = at;
            front = 0;
            back = 0;
            for (int count = 0; count <= NAME_MOST; count++) {
                int bits = nameBits(peek());
                if (bits == 0) {
                    return true;
                }
                if (count < NAME_MOST / 2) {
                    front = front << 6 | bits;
                } else {
                    back = back << 6 | bits;
                }
                at++;
            }
            return fail(FAULT_STANDS, first);
        }

        /** The digits here as a number, -1 if they tell one above 2^63 - 1. */
        private long readDigits() {
            long value = 0;
            for (int left = length - at; left > 0; left--) {
                int digit = peek() - '0';
                if (digit < 0 || digit > 9) {
                    break;
                }
                boolean fits = value >= 0 && value <= (Long.MAX_VALUE - digit) / 10;
                value = fits ? value * 10 + digit : -1;
                at++;
            }
            return value;
        }

        /** The great letters up to the next blank or line's end, five bits each; -1 if they are no name. */
        private int readOpKey() {
            int key = 0;
            for (int left = length - at; left > 0 && peek() != ' ' && peek() != LINE_END; left--) {
                int bits = peek() - 'A' + 1;
                boolean fits = key >= 0 && key < 1 << 20 && bits >= 1 && bits <= 26;
                key = fits ? key << 5 | bits : -1;
                at++;
            }
            return key;
        }

        private boolean isAtDigit() {
            return peek() >= '0' && peek() <= '9';
        }

        private static int hexDigit(int value) {
            if (value >= '0' && value <= '9') {
                return value - '0';
            }
            if (value >= 'a' && value <= 'f') {
                return value - 'a' + 10;
            }
            return value >= 'A' && value <= 'F' ? value - 'A' + 10 : -1;
        }

        /** The hex digits behind # as a number; a fault if there are none, or too many. */
        private long readHex() {
            int first = at;
            long value = 0;
            at++;
            for (int count = 0; count <= HEX_MOST; count++) {
                int digit = hexDigit(peek());
                if (digit < 0) {
                    if (count == 0) {
                        fail(FAULT_STANDS, at);
                    }
                    return value;
                }
                value = value << 4 | digit;
                at++;
            }
            fail(FAULT_STANDS, first);
            return 0;
        }

        /** The byte between ' and '. */
        private long readQuoted() {
            at++;
            int value = peek();
            if (value == LINE_END) {
                fail(FAULT_STANDS, at);
                return 0;
            }
            at++;
            if (peek() != '\'') {
                fail(FAULT_STANDS, at);
                return 0;
            }
            at++;
            return value;
        }

        /** Goes over the bytes between " and "; answers how many, 0 with a fault. */
        private int passString() {
            at++;
            int first = at;
            for (int left = length - at; left > 0 && peek() != '"' && !isAtLineEnd(); left--) {
                at++;
            }
            if (at == first || isAtLineEnd()) {
                fail(FAULT_STANDS, at);
                return 0;
            }
            at++;
            return at - 1 - first;
        }

        private int byteAt(int where) {
            return where >= 0 && where < length && where < text.length ? text[where] & 255 : 0;
        }
    }

    /** The labels of a text, and the uses of those that are not told yet. */
    private static final class Labels {
        private static final int MOST = 300;
        private static final int USES_MOST = TAPE_MOST / 2;
        private static final int UNTOLD = 0;
        private static final int AN_ADDRESS = 1;
        private static final int A_NUMBER = 2;
        private static final int A_REGISTER = 3;

        private final long[] fronts = new long[MOST];
        private final long[] backs = new long[MOST];
        private final long[] values = new long[MOST];
        private final int[] kinds = new int[MOST];
        private int count;
        private final int[] useLabels = new int[USES_MOST];
        private final int[] usePlaces = new int[USES_MOST];
        private final int[] useAddresses = new int[USES_MOST];
        private final int[] useBits = new int[USES_MOST];
        private int uses;

        private Labels() {
        }

        private void clear() {
            count = 0;
            uses = 0;
        }

        /** The label of that name, -1 if there is none. */
        private int find(long front, long back) {
            for (int i = 0; i < count && i < MOST; i++) {
                if (fronts[i] == front && backs[i] == back) {
                    return i;
                }
            }
            return -1;
        }

        /** A new label, not told yet; -1 if there are too many. */
        private int add(long front, long back) {
            if (count < 0 || count >= MOST) {
                return -1;
            }
            fronts[count] = front;
            backs[count] = back;
            values[count] = 0;
            kinds[count] = UNTOLD;
            count++;
            return count - 1;
        }

        private int kindOf(int label) {
            return label >= 0 && label < count && label < MOST ? kinds[label] : UNTOLD;
        }

        private long valueOf(int label) {
            return label >= 0 && label < count && label < MOST ? values[label] : 0;
        }

        private void set(int label, int kind, long value) {
            if (label >= 0 && label < count && label < MOST) {
                kinds[label] = kind;
                values[label] = value;
            }
        }

        private void addUse(int label, int place, int address, int bits) {
            if (uses >= 0 && uses < USES_MOST) {
                useLabels[uses] = label;
                usePlaces[uses] = place;
                useAddresses[uses] = address;
                useBits[uses] = bits;
                uses++;
            }
        }

        private int labelOfUse(int use) {
            return use >= 0 && use < uses && use < USES_MOST ? useLabels[use] : -1;
        }

        private int placeOfUse(int use) {
            return use >= 0 && use < uses && use < USES_MOST ? usePlaces[use] : 0;
        }

        private int addressOfUse(int use) {
            return use >= 0 && use < uses && use < USES_MOST ? useAddresses[use] : 0;
        }

        private int bitsOfUse(int use) {
            return use >= 0 && use < uses && use < USES_MOST ? useBits[use] : 64;
        }

        /** The place of the first use of a label that was never told, -1 without one. */
        private int firstUntold() {
            for (int use = 0; use < uses && use < USES_MOST; use++) {
                if (kindOf(useLabels[use]) == UNTOLD) {
                    return usePlaces[use];
                }
            }
            return -1;
        }
    }

    /** One operand as it was read. */
    private static final class Operand {
        private int place;
        private long value;
        private boolean isRegister;
        private boolean isSum;
        private boolean isAhead;
        private int label;
        private int stringLength;

        private Operand() {
        }

        private void clear(int at) {
            place = at;
            value = 0;
            isRegister = false;
            isSum = false;
            isAhead = false;
            label = -1;
            stringLength = 0;
        }
    }

    /** Makes an image of a text. */
    private static final class Assembler {
        private static final int NAME_WIDTH = 5;
        private static final String NAMES =
                "MUL  DIV  ADD  SUB  CMP  CMPU MULU DIVU AND  OR   XOR  ANDN SL   SR   SRU  LDB  LDBU LDT  LDO  STB  STT  STO  LDA  GO   NEG  BN   BZ   BP   BNN  BNZ  BNP  GETA PUSHJJMP  SETL SETMLSETMHSETH INCL INCMLINCMHINCH GET  PUT  POP  TRAP SWYM IS   LOC  BYTE TETRAOCTA ";
        /** In the order of the names: the op, the even one of two; 0 where nothing is laid by it. */
        private static final int[] CODES = {
            2, 4, 6, 8, 10, 12, 14, 16, 18, 20, 22, 24, 26, 28, 30,
            36, 38, 40, 42, 44, 46, 48, 50, 52, 32,
            60, 61, 62, 63, 64, 65, 69, 67, 66,
            70, 71, 72, 73, 74, 75, 76, 77, 78, 79, 68, 0, 80,
            0, 0, 0, 0, 0
        };
        /** In the order of the names: which operands it takes, as a row of the tables below. */
        private static final int[] FORMS = {
            0, 0, 0, 0, 0, 0, 0, 0, 0, 0, 0, 0, 0, 0, 0,
            0, 0, 0, 0, 0, 0, 0, 0, 0, 1,
            2, 2, 2, 2, 2, 2, 2, 2, 3,
            4, 4, 4, 4, 4, 4, 4, 4, 5, 6, 7, 8, 9,
            10, 11, 12, 13, 14
        };

        /** The name Main as the reader packs it. */
        private static final long MAIN = ((23 * 64 + 37) * 64 + 45) * 64 + 50;

        private static final int THREE = 0;
        private static final int NEGATE = 1;
        private static final int BRANCH = 2;
        private static final int JUMP = 3;
        private static final int TRAP = 8;
        private static final int IS = 10;
        private static final int LOC = 11;
        private static final int BYTE = 12;
        private static final int OCTA = 14;

        /** By form: how many operands it takes at least and at most. */
        private static final int[] LEAST = {2, 2, 2, 1, 2, 2, 2, 0, 1, 0, 1, 1, 1, 1, 1};
        private static final int[] MOST = {
            3, 3, 2, 1, 2, 2, 2, 2, 3, 0, 1, 1, TAPE_MOST, TAPE_MOST, TAPE_MOST
        };

        private static final int SLOT_REGISTER = 0;
        private static final int SLOT_BYTE = 1;
        private static final int SLOT_WYDE = 2;
        private static final int SLOT_EITHER = 3;
        private static final int SLOT_BRANCH = 4;
        private static final int SLOT_JUMP = 5;
        private static final int SLOT_NUMBER = 6;
        private static final int SLOT_OCTA = 7;
        private static final int SLOT_ANY = 8;
        private static final int OPERANDS = 3;

        /** By form: what its first, second, third operand may be. */
        private static final int[] SLOTS = {
            SLOT_REGISTER, SLOT_REGISTER, SLOT_EITHER,
            SLOT_REGISTER, SLOT_EITHER, SLOT_EITHER,
            SLOT_REGISTER, SLOT_BRANCH, SLOT_BRANCH,
            SLOT_JUMP, SLOT_JUMP, SLOT_JUMP,
            SLOT_REGISTER, SLOT_WYDE, SLOT_WYDE,
            SLOT_REGISTER, SLOT_BYTE, SLOT_BYTE,
            SLOT_BYTE, SLOT_REGISTER, SLOT_REGISTER,
            SLOT_BYTE, SLOT_WYDE, SLOT_WYDE,
            SLOT_BYTE, SLOT_BYTE, SLOT_BYTE,
            SLOT_BYTE, SLOT_BYTE, SLOT_BYTE,
            SLOT_ANY, SLOT_ANY, SLOT_ANY,
            SLOT_NUMBER, SLOT_NUMBER, SLOT_NUMBER,
            SLOT_NUMBER, SLOT_NUMBER, SLOT_NUMBER,
            SLOT_NUMBER, SLOT_NUMBER, SLOT_NUMBER,
            SLOT_OCTA, SLOT_OCTA, SLOT_OCTA
        };

        private final Reader reader;
        private final Image image;
        private final Labels labels = new Labels();
        private final Operand operand = new Operand();
        private final int[] nameKeys = new int[CODES.length];
        private final long[] values = new long[OPERANDS];
        private final byte[] areRegisters = new byte[OPERANDS];
        private int count;
        /** The label that this line tells, -1 without one. */
        private int own;
        private int op;
        private int form;
        private int opPlace;
        private long address;

        private Assembler(Reader reader, Image image) {
            this.reader = reader;
            this.image = image;
            for (int i = 0; i < nameKeys.length; i++) {
                for (int k = 0; k < NAME_WIDTH; k++) {
                    int at = i * NAME_WIDTH + k;
                    char letter = at < NAMES.length() ? NAMES.charAt(at) : ' ';
                    nameKeys[i] = letter == ' ' ? nameKeys[i] : nameKeys[i] << 5 | letter - 'A' + 1;
                }
            }
        }

        private boolean translate(int length) {
            reader.open(length);
            image.clear();
            labels.clear();
            address = 0;
            for (int lines = 0; lines <= length && reader.at < reader.length; lines++) {
                if (readHead() && readOp() && readOperands()) {
                    finishLine();
                }
                if (reader.fault != 0) {
                    return false;
                }
                reader.skipLine();
            }
            int untold = labels.firstUntold();
            if (untold >= 0) {
                return reader.fail(FAULT_LABEL, untold);
            }
            int main = labels.find(MAIN, 0);
            if (labels.kindOf(main) == Labels.AN_ADDRESS) {
                image.start = (int) labels.valueOf(main);
            }
            return true;
        }

        /** The label, if the line has one; answers whether an op follows. */
        private boolean readHead() {
            own = -1;
            if (reader.isAtLetter()) {
                if (!readOwnLabel()) {
                    return false;
                }
            } else if (reader.peek() != ' ') {
                return false;
            }
            reader.skipBlanks();
            if (reader.isAtLineEnd()) {
                tell(own, Labels.AN_ADDRESS, address);
                return false;
            }
            return true;
        }

        private boolean readOwnLabel() {
            int first = reader.at;
            if (!reader.readName()) {
                return false;
            }
            own = labels.find(reader.front, reader.back);
            if (labels.kindOf(own) != Labels.UNTOLD) {
                return reader.fail(FAULT_LABEL, first);
            }
            if (own < 0) {
                own = labels.add(reader.front, reader.back);
            }
            if (own < 0) {
                return reader.fail(FAULT_LABELS, first);
            }
            return reader.peek() == ' ' || reader.isAtLineEnd() || reader.fail(FAULT_STANDS, reader.at);
        }

        private boolean readOp() {
            opPlace = reader.at;
            op = findOp(reader.readOpKey());
            if (op < 0) {
                return reader.fail(FAULT_STANDS, opPlace);
            }
            form = entry(FORMS, op);
            if (form == IS && own < 0) {
                return reader.fail(FAULT_STANDS, opPlace);
            }
            count = 0;
            Arrays.fill(values, 0L);
            Arrays.fill(areRegisters, (byte) 0);
            if (form != IS && form != LOC) {
                long size = sizeOfForm();
                address = address + size - 1 & -size;
                tell(own, Labels.AN_ADDRESS, address);
            }
            return reader.fault == 0;
        }

        private int findOp(int key) {
            for (int i = 0; i < nameKeys.length; i++) {
                if (nameKeys[i] == key) {
                    return i;
                }
            }
            return -1;
        }

        private static int entry(int[] table, int at) {
            return at >= 0 && at < table.length ? table[at] : 0;
        }

        private int sizeOfForm() {
            if (form == BYTE) {
                return 1;
            }
            return form == OCTA ? 8 : 4;
        }

        private boolean readOperands() {
            reader.skipBlanks();
            if (reader.isAtLineEnd()) {
                return entry(LEAST, form) == 0 || reader.fail(FAULT_STANDS, reader.at);
            }
            if (entry(MOST, form) == 0) {
                return reader.fail(FAULT_KIND, reader.at);
            }
            for (int left = reader.length; left > 0; left--) {
                int slot = entry(SLOTS, form * OPERANDS + Math.min(count, OPERANDS - 1));
                if (!readOperand(slot) || !isRight(slot) || !takeOperand(slot)) {
                    return false;
                }
                if (form >= BYTE && !layData()) {
                    return false;
                }
                count++;
                if (reader.peek() != ',') {
                    return isEnough() || reader.fail(FAULT_KIND, reader.at);
                }
                reader.at++;
                if (isMost()) {
                    return reader.fail(FAULT_KIND, reader.at);
                }
            }
            return false;
        }

        private boolean isMost() {
            return count >= entry(MOST, form) || form == NEGATE && count == 2 && areRegisters[1] == 1;
        }

        private boolean isEnough() {
            if (form == TRAP && count == 2 || form == NEGATE && count == 2 && areRegisters[1] == 0) {
                return false;
            }
            return count >= entry(LEAST, form);
        }

        private boolean readOperand(int slot) {
            operand.clear(reader.at);
            if (readLone()) {
                return reader.fault == 0 && seesEnd();
            }
            boolean minus = false;
            for (int left = reader.length; left > 0; left--) {
                long term = readTerm(slot);
                if (reader.fault != 0) {
                    return false;
                }
                operand.value = minus ? operand.value - term : operand.value + term;
                if (!isAtSign()) {
                    return seesEnd();
                }
                operand.isSum = true;
                minus = reader.peek() == '-';
                reader.at++;
            }
            return false;
        }

        /** Reads what is no TERM, so that no sign may stand behind it nor ahead of it. */
        private boolean readLone() {
            if (form == BYTE && reader.peek() == '"') {
                operand.stringLength = reader.passString();
                return true;
            }
            if (reader.peek() == '$') {
                operand.isRegister = true;
                operand.value = readRegister();
                return true;
            }
            return false;
        }

        private boolean isAtSign() {
            int here = reader.peek();
            return here == '+' || here == '-';
        }

        private boolean seesEnd() {
            int here = reader.peek();
            return here == ',' || here == ' ' || here == Reader.LINE_END || reader.fail(FAULT_STANDS, reader.at);
        }

        private long readTerm(int slot) {
            int first = reader.at;
            int here = reader.peek();
            if (here == '#') {
                return reader.readHex();
            }
            if (here == '\'') {
                return reader.readQuoted();
            }
            if (here == '@') {
                reader.at++;
                return address;
            }
            if (reader.isAtLetter()) {
                return readLabel(slot);
            }
            long value = reader.isAtDigit() ? reader.readDigits() : -1;
            if (value < 0) {
                reader.fail(FAULT_STANDS, first);
            }
            return value;
        }

        private long readRegister() {
            int first = reader.at;
            reader.at++;
            if (!reader.isAtDigit()) {
                reader.fail(FAULT_STANDS, reader.at);
                return 0;
            }
            long k = reader.readDigits();
            if (k < 0 || k >= REGISTERS) {
                reader.fail(FAULT_STANDS, first);
            }
            return k;
        }

        private long readLabel(int slot) {
            int first = reader.at;
            if (!reader.readName()) {
                return 0;
            }
            int label = labels.find(reader.front, reader.back);
            int kind = labels.kindOf(label);
            if (kind == Labels.UNTOLD || label == own) {
                boolean whole = first == operand.place && !isAtSign();
                if (!whole || bitsOf(slot) == 0) {
                    reader.fail(FAULT_LABEL, first);
                }
                operand.isAhead = kind == Labels.UNTOLD;
                operand.label = label;
            } else if (kind == Labels.A_REGISTER) {
                operand.isRegister = true;
            }
            return labels.valueOf(label);
        }

        /** How many bits a label that is used ahead goes to; 0 where none may be used. */
        private static int bitsOf(int slot) {
            switch (slot) {
                case SLOT_BRANCH:
                    return 16;
                case SLOT_JUMP:
                    return 24;
                case SLOT_OCTA:
                    return 64;
                default:
                    return 0;
            }
        }

        /** Looks at the operand's kind, then whether its number fits. */
        private boolean isRight(int slot) {
            if (operand.stringLength > 0 || operand.isAhead) {
                return true;
            }
            if (operand.isRegister) {
                boolean isTaken = slot == SLOT_REGISTER || slot == SLOT_EITHER || slot == SLOT_ANY;
                return isTaken && !operand.isSum || reader.fail(FAULT_KIND, operand.place);
            }
            if (slot == SLOT_REGISTER) {
                return reader.fail(FAULT_KIND, operand.place);
            }
            return fitsSlot(slot) || reader.fail(FAULT_FIT, operand.place);
        }

        private boolean fitsSlot(int slot) {
            long value = operand.value;
            switch (slot) {
                case SLOT_BYTE:
                case SLOT_EITHER:
                    return value >= 0 && value < 256;
                case SLOT_WYDE:
                    return value >= 0 && value < 65536;
                case SLOT_BRANCH:
                case SLOT_JUMP:
                    return isOffset(value - address, bitsOf(slot));
                default:
                    return true;
            }
        }

        private boolean takeOperand(int slot) {
            if (operand.isAhead && !noteUse(bitsOf(slot))) {
                return false;
            }
            if (count >= 0 && count < OPERANDS) {
                values[count] = fieldOf(slot);
                areRegisters[count] = (byte) (operand.isRegister ? 1 : 0);
            }
            return true;
        }

        /** What goes to the instruction; 0 for a label that will be settled when it is told. */
        private long fieldOf(int slot) {
            if (operand.isAhead) {
                return 0;
            }
            boolean goes = slot == SLOT_BRANCH || slot == SLOT_JUMP;
            return goes ? operand.value - address >> 2 : operand.value;
        }

        private boolean noteUse(int bits) {
            int label = operand.label;
            if (label < 0) {
                label = labels.add(reader.front, reader.back);
            }
            if (label < 0) {
                return reader.fail(FAULT_LABELS, operand.place);
            }
            labels.addUse(label, operand.place, (int) address, bits);
            return true;
        }

        private boolean layData() {
            if (operand.stringLength == 0) {
                return lay(sizeOfForm(), operand.value);
            }
            for (int i = 1; i <= operand.stringLength; i++) {
                if (!lay(1, reader.byteAt(operand.place + i))) {
                    return false;
                }
            }
            return true;
        }

        private boolean lay(int size, long value) {
            if (address < 0 || address + size > BYTES) {
                return reader.fail(FAULT_LAID, opPlace);
            }
            image.put((int) address, size, value);
            address += size;
            return true;
        }

        private void finishLine() {
            if (form == IS) {
                tell(own, operand.isRegister ? Labels.A_REGISTER : Labels.A_NUMBER, operand.value);
            } else if (form == LOC) {
                moveAddress(operand.value);
                tell(own, Labels.AN_ADDRESS, address);
            } else if (form < IS) {
                lay(4, encode());
            }
        }

        private void moveAddress(long to) {
            if (to < 0 || to > BYTES) {
                reader.fail(FAULT_LAID, opPlace);
            } else {
                address = to;
            }
        }

        private long encode() {
            long a = values[0];
            long b = values[1];
            long c = values[2];
            long code = (long) entry(CODES, op) << 24;
            long odd = areRegisters[2] == 1 ? 0 : 1 << 24;
            switch (form) {
                case THREE:
                    return code + odd | a << 16 | b << 8 | c;
                case NEGATE:
                    return count == 2 ? code | a << 16 | b : code + odd | a << 16 | b << 8 | c;
                case BRANCH:
                    return code | a << 16 | b & 0xFFFF;
                case JUMP:
                    return code | a & 0xFFFFFF;
                case TRAP:
                    return count == 1 ? a : a << 16 | b << 8 | c;
                default:
                    return code | a << 16 | b;
            }
        }

        /** The label's uses so far are settled now, in their order. */
        private void tell(int label, int kind, long value) {
            if (label < 0) {
                return;
            }
            labels.set(label, kind, value);
            for (int use = 0; use < labels.uses && reader.fault == 0; use++) {
                if (labels.labelOfUse(use) == label) {
                    settle(use, kind, value);
                }
            }
        }

        private void settle(int use, int kind, long value) {
            int to = labels.addressOfUse(use);
            int bits = labels.bitsOfUse(use);
            if (kind == Labels.A_REGISTER) {
                reader.fail(FAULT_KIND, labels.placeOfUse(use));
            } else if (bits == 64) {
                image.put(to, 8, value);
            } else if (isOffset(value - to, bits)) {
                image.putOffset(to, bits, value - to >> 2);
            } else {
                reader.fail(FAULT_FIT, labels.placeOfUse(use));
            }
        }
    }

    /** Makes an image of a file. */
    private static final class Loader {
        private static final int MOVE = 1;
        private static final int LAY = 2;
        private static final int GO_OCTA = 3;
        private static final int GO_BRANCH = 4;
        private static final int START = 6;
        private static final int RECORD_LENGTH = 9;

        private final byte[] file;
        private final Image image;
        private int length;
        private int at;
        private int address;
        private int fault;
        private int place;

        private Loader(byte[] file, Image image) {
            this.file = file;
            this.image = image;
        }

        private boolean readFile(int count) {
            length = Math.max(0, Math.min(count, file.length));
            at = 0;
            address = 0;
            fault = 0;
            image.clear();
            boolean ended = false;
            for (int records = 0; records < length && at < length && !ended; records++) {
                place = at;
                ended = byteAt(at) == START;
                fault = doRecord(byteAt(at));
                if (fault != 0) {
                    return false;
                }
            }
            place = at;
            if (!ended) {
                fault = FAULT_ENDS;
            } else if (at < length) {
                fault = FAULT_RECORD;
            }
            return fault == 0;
        }

        private int byteAt(int where) {
            return where >= 0 && where < length && where < file.length ? file[where] & 255 : 0;
        }

        /** Answers the fault, 0 without one. */
        private int doRecord(int kind) {
            if (kind < MOVE || kind > START) {
                return FAULT_RECORD;
            }
            if (kind == LAY) {
                return layBytes();
            }
            if (at + RECORD_LENGTH > length) {
                return FAULT_ENDS;
            }
            long number = 0;
            for (int i = 1; i < RECORD_LENGTH; i++) {
                number = number << 8 | byteAt(at + i);
            }
            int found = kind == MOVE || kind == START ? move(kind, number) : refer(kind, number);
            at += RECORD_LENGTH;
            return found;
        }

        private int layBytes() {
            if (at + 2 > length) {
                return FAULT_ENDS;
            }
            int n = byteAt(at + 1);
            if (n == 0) {
                return FAULT_RECORD;
            }
            if (at + 2 + n > length) {
                return FAULT_ENDS;
            }
            if (address + n > BYTES) {
                return FAULT_ADDRESS;
            }
            for (int i = 0; i < n; i++) {
                image.put(address + i, 1, byteAt(at + 2 + i));
            }
            address += n;
            at += 2 + n;
            return 0;
        }

        private int move(int kind, long to) {
            if (to < 0 || to > BYTES) {
                return FAULT_ADDRESS;
            }
            if (kind == START) {
                image.start = (int) to;
            } else {
                address = (int) to;
            }
            return 0;
        }

        private int refer(int kind, long to) {
            long unit = kind == GO_OCTA ? 8 : 4;
            if (!isAddress(to) || (to & unit - 1) != 0) {
                return FAULT_ADDRESS;
            }
            if (kind == GO_OCTA) {
                image.put((int) to, 8, address);
                return 0;
            }
            int bits = kind == GO_BRANCH ? 16 : 24;
            long distance = address - to;
            if (!isOffset(distance, bits)) {
                return FAULT_OFFSET;
            }
            image.putOffset((int) to, bits, distance >> 2);
            return 0;
        }
    }
}
