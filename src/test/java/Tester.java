/** What the tests share: feeding bytes, comparing answers, ending with the due exit code. */
final class Tester {
    private static int wrong;
    private static int compared;

    private Tester() {
    }

    static void due(String what, long got, long want) {
        compared++;
        if (got != want) {
            wrong++;
            System.out.println(what + " answered " + got + ", due is " + want);
        }
    }

    static void finish(String name) {
        System.out.println(name + ": " + compared + " answers, " + wrong + " wrong");
        System.exit(wrong == 0 ? 0 : 1);
    }

    /** Puts bytes on a tape that has nothing yet. */
    static void tape(PagedMachine machine, byte[] bytes) {
        for (int at = 0; at < bytes.length; at += 20) {
            machine.feed(word(bytes, at), word(bytes, at + 4), word(bytes, at + 8),
                    word(bytes, at + 12), word(bytes, at + 16));
        }
        machine.end(bytes.length);
    }

    private static int word(byte[] bytes, int at) {
        int word = 0;
        for (int i = at; i < at + 4; i++) {
            word = word << 8 | (i < bytes.length ? bytes[i] & 255 : 0);
        }
        return word;
    }

    static byte[] bytes(String text) {
        byte[] bytes = new byte[text.length()];
        for (int i = 0; i < bytes.length; i++) {
            bytes[i] = (byte) text.charAt(i);
        }
        return bytes;
    }

    static int assemble(PagedMachine machine, String text) {
        tape(machine, bytes(text));
        return machine.assemble();
    }

    /** Lines with | between them, for short texts. */
    static PagedMachine assembled(String lines) {
        PagedMachine machine = new PagedMachine();
        due("assemble of " + lines, assemble(machine, lines.replace('|', '\n')), 0);
        return machine;
    }

    static PagedMachine ran(String lines, int end) {
        PagedMachine machine = assembled(lines);
        due("run of " + lines, machine.run(20000), end);
        return machine;
    }

    static int load(PagedMachine machine, int... values) {
        byte[] bytes = new byte[values.length];
        for (int i = 0; i < bytes.length; i++) {
            bytes[i] = (byte) values[i];
        }
        tape(machine, bytes);
        return machine.load();
    }

    static int input(PagedMachine machine, String text) {
        tape(machine, bytes(text));
        return machine.input();
    }

    static String out(PagedMachine machine) {
        StringBuilder text = new StringBuilder();
        for (int i = 0; i < machine.outs(); i++) {
            text.append((char) machine.out(i));
        }
        return text.toString();
    }

    static void dueText(String what, String got, String want) {
        compared++;
        if (!got.equals(want)) {
            wrong++;
            System.out.println(what + " answered \"" + got + "\", due is \"" + want + "\"");
        }
    }

    /** The digest as the document tells it, from the other calls. */
    static long digestOf(PagedMachine machine, int frames) {
        long d = 7;
        for (int k = 0; k <= 38; k++) {
            d = d * 31 + machine.register(k);
        }
        d = d * 31 + machine.steps();
        for (int what = 0; what <= 7; what++) {
            d = d * 31 + machine.told(what);
        }
        d = d * 31 + machine.outs();
        for (int i = 0; i < machine.outs(); i++) {
            d = d * 31 + machine.out(i);
        }
        for (int f = 0; f < frames; f++) {
            d = d * 31 + machine.page(f);
        }
        for (int octa = 0; octa < 8192; octa++) {
            d = d * 31 + machine.octa(8 * octa);
        }
        return d;
    }
}
