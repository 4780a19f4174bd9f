import java.util.function.Supplier;
import java.util.function.ToIntFunction;

/** What the tests share: feeding bytes, comparing answers, ending with the due exit code. */
final class Tester {
    /** Of the 512 calls that are promised for an object, those that a test may spend on reading octas. */
    private static final int OCTAS_OF_ONE = 256;

    private static int wrong;
    private static int compared;

    private Tester() {
    }

    static void due(String what, long got, long want) {
        compared++;
        if (got != want) {
            wrong++;
            System.out.println(what + " answered " + got + ", due is " + want);
        }
    }

    static void finish(String name) {
        System.out.println(name + ": " + compared + " answers, " + wrong + " wrong");
        System.exit(wrong == 0 ? 0 : 1);
    }

    /** Puts bytes on a tape that has nothing yet. */
    static void tape(PagedMachine machine, byte[] bytes) {
        for (int at = 0; at < bytes.length; at += 20) {
            machine.feed(word(bytes, at), word(bytes, at + 4), word(bytes, at + 8),
                    word(bytes, at + 12), word(bytes, at + 16));
        }
        machine.end(bytes.length);
    }

    private static int word(byte[] bytes, int at) {
        int word = 0;
        for (int i = at; i < at + 4; i++) {
            word = word << 8 | (i < bytes.length ? bytes[i] & 255 : 0);
        }
        return word;
    }

    static byte[] bytes(String text) {
        byte[] bytes = new byte[text.length()];
        for (int i = 0; i < bytes.length; i++) {
            bytes[i] = (byte) text.charAt(i);
        }
        return bytes;
    }

    static int assemble(PagedMachine machine, String text) {
        tape(machine, bytes(text));
        return machine.assemble();
    }

    /** Lines with | between them, for short texts. */
    static PagedMachine assembled(String lines) {
        PagedMachine machine = new PagedMachine();
        due("assemble of " + lines, assemble(machine, lines.replace('|', '\n')), 0);
        return machine;
    }

    static PagedMachine ran(String lines, int end) {
        PagedMachine machine = assembled(lines);
        due("run of " + lines, machine.run(20000), end);
        return machine;
    }

    static int load(PagedMachine machine, int... values) {
        byte[] bytes = new byte[values.length];
        for (int i = 0; i < bytes.length; i++) {
            bytes[i] = (byte) values[i];
        }
        tape(machine, bytes);
        return machine.load();
    }

    static int input(PagedMachine machine, String text) {
        tape(machine, bytes(text));
        return machine.input();
    }

    static String out(PagedMachine machine) {
        StringBuilder text = new StringBuilder();
        for (int i = 0; i < machine.outs(); i++) {
            text.append((char) machine.out(i));
        }
        return text.toString();
    }

    static void dueText(String what, String got, String want) {
        compared++;
        if (!got.equals(want)) {
            wrong++;
            System.out.println(what + " answered \"" + got + "\", due is \"" + want + "\"");
        }
    }

    /** Lines with | between them; a text without a fault is told by 0 and -1. */
    static void textFault(int number, int place, String lines) {
        PagedMachine m = new PagedMachine();
        int answer = assemble(m, lines.replace('|', '\n'));
        due("assemble of " + lines, answer, number == 0 ? 0 : -1);
        due("fault of " + lines, m.fault(0), number);
        due("place in " + lines, m.fault(1), place);
        due("loaded by " + lines, m.told(6), number == 0 ? 1 : 0);
    }

    /** The digest as the document tells it, from the other calls, on machines made alike. */
    static long digestOf(Supplier<PagedMachine> maker, int frames) {
        PagedMachine machine = maker.get();
        long d = 7;
        for (int k = 0; k <= 38; k++) {
            d = d * 31 + machine.register(k);
        }
        d = d * 31 + machine.steps();
        for (int what = 0; what <= 7; what++) {
            d = d * 31 + machine.told(what);
        }
        d = d * 31 + machine.outs();
        for (int i = 0; i < machine.outs(); i++) {
            d = d * 31 + machine.out(i);
        }
        for (int f = 0; f < frames; f++) {
            d = d * 31 + machine.page(f);
        }
        for (int octa = 0; octa < 8192; octa++) {
            machine = octa % OCTAS_OF_ONE == 0 ? maker.get() : machine;
            d = d * 31 + machine.octa(8 * octa);
        }
        return d;
    }

    /** A call that answers -1 and changes nothing: all that comes later is as on a twin without the call. */
    static void refused(String what, Supplier<PagedMachine> maker, ToIntFunction<PagedMachine> call) {
        PagedMachine one = maker.get();
        PagedMachine other = maker.get();
        due(what, call.applyAsInt(other), -1);
        alike(what, one, other);
    }

    /** Reads all that can be read, goes on with the run, then looks at the tape and what it brings. */
    static void alike(String what, PagedMachine one, PagedMachine other) {
        due(what + ", fault(0) behind it", other.fault(0), one.fault(0));
        due(what + ", fault(1) behind it", other.fault(1), one.fault(1));
        due(what + ", digest behind it", other.digest(), one.digest());
        for (int i = 0; i < 20; i++) {
            due(what + ", run behind it", other.run(1 + i), one.run(1 + i));
            due(what + ", digest behind a run", other.digest(), one.digest());
        }
        int taped = one.feed(1, 2, 3, 4, 5);
        due(what + ", the tape behind it", other.feed(1, 2, 3, 4, 5), taped);
        due(what + ", input behind it", other.input(), one.input());
        due(what + ", run with more input", other.run(20000), one.run(20000));
        due(what + ", digest at last", other.digest(), one.digest());
    }
}
