/** Promises 5 and 7 at the edges of 3 TEXTS: one method for each sentence that names one. */
public final class TextEdgeTest {
    private static final String[] THREE = {
        "MUL", "DIV", "ADD", "SUB", "CMP", "CMPU", "MULU", "DIVU", "AND", "OR", "XOR", "ANDN", "SL", "SR", "SRU",
        "LDB", "LDBU", "LDT", "LDO", "STB", "STT", "STO", "LDA", "GO"
    };
    private static final String[] BRANCH = {"BN", "BZ", "BP", "BNN", "BNZ", "BNP", "GETA", "PUSHJ"};
    private static final String[] SET = {
        "SETL", "SETML", "SETMH", "SETH", "INCL", "INCML", "INCMH", "INCH"
    };
    /** The bytes just outside of the digits and of both kinds of letters. */
    private static final String BESIDE = "/:@[`{";

    public static void main(String[] args) {
        lineEnds();
        firstBytes();
        lengthsOfLabels();
        lettersOfLabels();
        everyLetterCounts();
        everyPairOfLettersCounts();
        onlyBlanks();
        endsOfOps();
        blanksInQuotes();
        behindBlank();
        addressAtFirst();
        registers();
        digits();
        hexDigits();
        quoted();
        sumsWrap();
        toldOnce();
        usedBehind();
        usedAhead();
        ownLine();
        locs();
        alignment();
        lowestBytes();
        strings();
        thirdOperand();
        negations();
        branchesReach();
        jumpsReach();
        reachFromTheEnd();
        sets();
        getsAndPuts();
        pops();
        traps();
        swym();
        noOperands();
        manyUses();
        mains();
        Tester.finish("TextEdgeTest");
    }

    private static void fault(int number, int place, String lines) {
        Tester.textFault(number, place, lines);
    }

    private static void right(String lines) {
        Tester.textFault(0, -1, lines);
    }

    private static void octa(String lines, int address, long want) {
        Tester.due("octa " + address + " of " + lines, Tester.assembled(lines).octa(address), want);
    }

    private static void word(String line, long want) {
        octa(line, 0, want << 32);
    }

    /** "TEXTS are lines, each up to a byte 10 or the end." */
    private static void lineEnds() {
        right("");
        right("|");
        right("||");
        octa(" BYTE 1", 0, 1L << 56);
        octa(" BYTE 1|", 0, 1L << 56);
        octa(" BYTE 1|| BYTE 2|", 0, 0x0102L << 48);
        fault(1, 5, " BYTE");
        fault(1, 5, " BYTE|");
        fault(1, 5, " BYTE| BYTE 1");
        fault(1, 1, " SWYM\r| SWYM");
        fault(1, 1, " SWYM\0");
    }

    /** "if its first byte is a letter A to Z, a to z"; "neither a letter nor a blank is passed as a whole". */
    private static void firstBytes() {
        for (int first = 0; first < 256; first++) {
            boolean letter = first >= 'A' && first <= 'Z' || first >= 'a' && first <= 'z';
            if (first == ' ') {
                fault(1, 2, "  FOO");
            } else if (first == '\n') {
                fault(1, 2, "\n FOO");
            } else if (letter) {
                fault(1, 2, (char) first + " FOO");
            } else if (first != '|') {
                right((char) first + " FOO \"");
                octa((char) first + " BYTE 1| BYTE 2", 0, 2L << 56);
            }
        }
    }

    /** "letters and digits, 12 at most"; "a LABEL of more than 12 (at its first byte)". */
    private static void lengthsOfLabels() {
        octa("a IS 7| BYTE a", 0, 7L << 56);
        octa("abcdefghijkl IS 7| BYTE abcdefghijkl", 0, 7L << 56);
        octa(" OCTA abcdefghijkl|abcdefghijkl", 0, 8);
        fault(1, 0, "abcdefghijklm");
        fault(1, 0, "abcdefghijklm IS 7");
        fault(1, 7, " SWYM||abcdefghijkl9 SWYM");
        fault(1, 6, " OCTA abcdefghijklm");
        fault(1, 8, " OCTA 1+abcdefghijklm");
        fault(1, 9, " SETL $1,abcdefghijkl1");
        fault(1, 8, " OCTA 1,abcdefghijklmnopqrstuvwxyz|abcdefghijklmnopqrstuvwxyz");
    }

    private static void lettersOfLabels() {
        octa("AZaz09 IS 7| BYTE AZaz09", 0, 7L << 56);
        for (int i = 0; i < BESIDE.length(); i++) {
            char beside = BESIDE.charAt(i);
            fault(1, 1, "A" + beside + " SWYM");
            fault(1, 2, "A1" + beside + "B");
            fault(1, 14, "A IS 7| BYTE A" + beside);
            fault(1, 6, " BYTE " + (beside == '@' ? "!" : beside));
        }
    }

    /** Two labels of 12 that differ in one letter alone, in any place, are two. */
    private static void everyLetterCounts() {
        for (int i = 0; i < 12; i++) {
            char[] name = "abcdefghijkl".toCharArray();
            name[i] = i == 0 ? 'Z' : '9';
            String other = new String(name);
            octa("abcdefghijkl IS 1|" + other + " IS 2| BYTE abcdefghijkl," + other, 0, 0x0102L << 48);
            name[i] = Character.toUpperCase("abcdefghijkl".charAt(i));
            octa("abcdefghijkl IS 1|" + new String(name) + " IS 2| BYTE abcdefghijkl", 0, 1L << 56);
            String less = "abcdefghijkl".substring(0, i);
            octa("abcdefghijkl IS 1|x" + less + " IS 2| BYTE abcdefghijkl,x" + less, 0, 0x0102L << 48);
        }
    }

    /** Labels of 10 and of 2 that differ in their last two letters alone. */
    private static void everyPairOfLettersCounts() {
        String letters = "0129ABWXYZabxyz";
        String[] heads = {"abcdefgh", "abcde", "a"};
        for (String head : heads) {
            StringBuilder text = new StringBuilder();
            for (int i = 0; i < 225; i++) {
                text.append(head).append(letters.charAt(i / 15)).append(letters.charAt(i % 15));
                text.append(" IS ").append(i).append('|');
            }
            for (int i = 0; i < 225; i += 5) {
                text.append(" OCTA ").append(head).append(letters.charAt(i / 15)).append(letters.charAt(i % 15));
                text.append('|');
            }
            PagedMachine m = Tester.assembled(text.toString());
            for (int i = 0; i < 225; i += 5) {
                Tester.due("label " + i + " of " + head, m.octa(8 * (i / 5)), i);
            }
        }
    }

    /** "behind blanks (32)". */
    private static void onlyBlanks() {
        octa("A   BYTE     1", 0, 1L << 56);
        fault(1, 1, "A\tBYTE 1");
        fault(1, 1, " \tBYTE 1");
        fault(1, 1, " BYTE\t1");
        fault(1, 6, " BYTE \t1");
        fault(1, 7, " BYTE 1\t");
        fault(1, 1, " !SWYM");
        fault(1, 1, " \u001FSWYM");
        fault(1, 1, "A!SWYM");
    }

    /** "An OP goes as far as the next blank or the line's end", "(great letters)". */
    private static void endsOfOps() {
        fault(1, 1, " SWYM,");
        fault(1, 1, " SWYM\"");
        fault(1, 1, " SWYMS");
        fault(1, 1, " SWY");
        fault(1, 1, " S");
        fault(1, 1, " swym");
        fault(1, 1, " SWYm");
        fault(1, 1, " BYTE1");
        fault(1, 1, " $1");
        fault(1, 3, "A  TRAPS 0");
        fault(1, 1, " NOT 1");
        fault(1, 1, " SET $1,2");
        fault(1, 1, " INC $1,2");
        fault(1, 1, " WYDE 1");
        for (int i = 0; i < THREE.length; i++) {
            fault(1, 1, " " + THREE[i] + "X $1,$2");
            fault(1, 1, " Q" + THREE[i] + " $1,$2");
            fault(1, 1, " " + THREE[i].toLowerCase() + " $1,$2");
        }
    }

    /** "(no blanks but in "" and '')". */
    private static void blanksInQuotes() {
        octa(" BYTE \" \",' ',1", 0, 0x202001L << 40);
        fault(1, 8, " BYTE 1, 2");
        fault(1, 8, " BYTE 1+ 2");
        fault(3, 7, " ADD $1 ,$2");
        octa(" BYTE 1 +2", 0, 1L << 56);
        octa(" BYTE 1 ,2", 0, 1L << 56);
    }

    /** "what stands behind a blank then is passed". */
    private static void behindBlank() {
        octa(" BYTE 1 \"|; '| BYTE 2 'x|A BYTE 3 ,,$$", 0, 0x010203L << 40);
        right(" POP 1 2 3| ADD $1,$2 $3,$4| TRAP 0 ,1| LOC 8 LOC 65537|B IS 1 ,");
        right("A SWYM ");
    }

    /** "THE ADDRESS is 0 at first", of each text; nothing of an earlier text is known. */
    private static void addressAtFirst() {
        PagedMachine m = Tester.assembled("A LOC 64|Main OCTA A,B|B IS 5|C IS $3| ADD C,C,C");
        Tester.due("assemble again", Tester.assemble(m, " OCTA @,B,A\nC\nA\nB"), 0);
        Tester.due("@", m.octa(0), 0);
        Tester.due("B", m.octa(8), 24);
        Tester.due("A", m.octa(16), 24);
        Tester.due("nothing of the first", m.octa(64), 0);
        Tester.due("no Main", m.register(37), 0);
        Tester.due("a label that is never told", Tester.assemble(m, " JMP A"), -1);
        Tester.due("its fault", m.fault(0), 2);
        Tester.due("its use is not known", Tester.assemble(m, " SWYM"), 0);
        Tester.due("even if it is told then", Tester.assemble(m, " LOC 6\nA SWYM"), 0);
        Tester.due("nothing went", m.octa(0), 0);
        Tester.due("a fault", Tester.assemble(m, " LOC 64\nD IS 5\nD"), -1);
        Tester.due("leaves no label", Tester.assemble(m, "D OCTA D"), 0);
        Tester.due("nor an address", m.octa(0), 0);
        m = Tester.assembled(" JMP @+4");
        Tester.due("an even op behind an odd one", Tester.assemble(m, " ADD $1,$2,$3\n ADD $1,$2\n"), 0);
        Tester.due("is the odd one again", m.octa(0), 0x0601020307010200L);
    }

    /** "a REGISTER ($ and digits, 0 to 31 ..)". */
    private static void registers() {
        for (int k = 0; k <= 31; k++) {
            word(" ADD $" + k + ",$" + (31 - k) + ",$" + k, 0x06000000L | k << 16 | 31 - k << 8 | k);
        }
        word(" ADD $00,$0000000000000000000000031,$9", 0x06001F09L);
        fault(1, 5, " ADD $32,$1");
        fault(1, 8, " ADD $1,$32");
        fault(1, 11, " ADD $1,$2,$32");
        fault(1, 5, " ADD $256,$1");
        fault(1, 5, " ADD $4294967296,$1");
        fault(1, 5, " ADD $18446744073709551616,$1");
        fault(1, 5, "A IS $32");
        fault(1, 6, " ADD $,$1");
        fault(1, 6, " ADD $ 1,$1");
        fault(1, 6, " ADD $");
        fault(1, 6, " ADD $-1,$1");
        fault(1, 6, " ADD $#1,$1");
        fault(1, 6, " ADD $/,$1");
        fault(1, 6, " ADD $:,$1");
        fault(1, 7, " ADD $1:,$1");
        fault(1, 7, " ADD $1/,$1");
    }

    /** "digits (up to 2^63 - 1)"; "a number too great (likewise)". */
    private static void digits() {
        octa(" OCTA 0", 0, 0);
        octa(" OCTA 9223372036854775806", 0, Long.MAX_VALUE - 1);
        octa(" OCTA 9223372036854775807", 0, Long.MAX_VALUE);
        octa(" OCTA 00000000000000000000009223372036854775807", 0, Long.MAX_VALUE);
        fault(1, 6, " OCTA 9223372036854775808");
        fault(1, 6, " OCTA 9223372036854775810");
        fault(1, 6, " OCTA 10000000000000000000");
        fault(1, 6, " OCTA 18446744073709551615");
        fault(1, 6, " OCTA 18446744073709551616");
        fault(1, 6, " OCTA 18446744073709551617");
        fault(1, 6, " OCTA 36893488147419103233");
        fault(1, 6, " OCTA 340282366920938463463374607431768211457");
        fault(1, 8, " OCTA 0-9223372036854775808");
        fault(1, 10, " OCTA 1,2-9223372036854775808*");
        fault(1, 7, " OCTA 1/");
        fault(1, 7, " OCTA 1:");
    }

    /** "# and 1 to 16 hex digits (0 to 9, a to f, A to F)". */
    private static void hexDigits() {
        octa(" OCTA #0", 0, 0);
        octa(" OCTA #0123456789abcdef", 0, 0x0123456789ABCDEFL);
        octa(" OCTA #FEDCBA9876543210", 0, 0xFEDCBA9876543210L);
        octa(" OCTA #8000000000000000", 0, Long.MIN_VALUE);
        octa(" OCTA #fffffffffffffffF", 0, -1);
        fault(1, 6, " OCTA #10000000000000000");
        fault(1, 6, " OCTA #00000000000000001");
        fault(1, 6, " OCTA #123456789012345678901234567890");
        fault(1, 7, " OCTA #");
        fault(1, 7, " OCTA #,1");
        fault(1, 7, " OCTA # 1");
        fault(1, 7, " OCTA #-1");
        String beside = BESIDE + "gG";
        for (int i = 0; i < beside.length(); i++) {
            fault(1, 7, " OCTA #" + beside.charAt(i));
            fault(1, 8, " OCTA #0" + beside.charAt(i));
            fault(1, 23, " OCTA #0123456789ABCDEF" + beside.charAt(i));
        }
    }

    /** "a byte between ' and '"; "'' at the byte that lacks". */
    private static void quoted() {
        for (int value = 0; value < 256; value++) {
            if (value != '\n' && value != '|') {
                octa(" OCTA '" + (char) value + "'", 0, value);
            }
        }
        fault(1, 7, " OCTA '");
        fault(1, 7, " OCTA '| OCTA '");
        fault(1, 8, " OCTA ''");
        fault(1, 8, " OCTA ''x");
        fault(1, 8, " OCTA 'x");
        fault(1, 8, " OCTA 'x|");
        fault(1, 8, " OCTA 'xy'");
        fault(1, 9, " OCTA 'x'y");
        fault(1, 9, " OCTA ''''");
    }

    /** "TERMS with + or - between, from the left, wrapping". */
    private static void sumsWrap() {
        octa(" OCTA 9223372036854775807+1", 0, Long.MIN_VALUE);
        octa(" OCTA 0-9223372036854775807-1", 0, Long.MIN_VALUE);
        octa(" OCTA 0-9223372036854775807-2", 0, Long.MAX_VALUE);
        octa(" OCTA #FFFFFFFFFFFFFFFF+1", 0, 0);
        octa(" OCTA #8000000000000000+#8000000000000000", 0, 0);
        octa(" OCTA 9-4+3-2+1", 0, 7);
        octa(" OCTA 1-2-3", 0, -4);
        word(" SETL $1,9223372036854775807+9223372036854775807+3", 0x46010001L);
        right(" LOC 9223372036854775807+9223372036854775807+2");
    }

    /** "It is told once". */
    private static void toldOnce() {
        fault(2, 2, "A|A");
        fault(2, 7, "A IS 1|A IS 1");
        fault(2, 8, "A IS $1|A IS $1");
        fault(2, 7, "A SWYM|A BYTE 1");
        fault(2, 9, "A LOC 10|A LOC 10");
        fault(2, 9, " JMP A|A|A");
        right("A|a|AA|Aa|aA|aa|A1|A01");
    }

    /** "and used in lines behind", in every TERM. */
    private static void usedBehind() {
        octa("A IS 5|B IS A+1|C LOC B+2|D BYTE A,B,C|E BYTE D-3+A", 8, 0x0506080A00000000L);
        word("R IS $3|Q IS R| ADD Q,R,Q", 0x06030303L);
        word("A IS 255| ADD $1,$2,A", 0x070102FFL);
    }

    private static final String[] AHEAD_NOT = {
        "MUL #,$1", "MUL $1,#", "MUL $1,$2,#", "LDO #,$1,1", "LDO $1,#,1", "GO $1,$2,#", "NEG #,1,2", "NEG $1,#",
        "NEG $1,#,1", "NEG $1,1,#", "BZ #,@", "PUSHJ #,@", "GETA #,@", "SETL #,1", "SETL $1,#", "INCH $1,#",
        "GET #,1", "GET $1,#", "PUT #,$1", "PUT 1,#", "POP #", "POP 1,#", "TRAP #", "TRAP #,1,1", "TRAP 1,#,1",
        "TRAP 1,1,#", "LOC #", "BYTE #", "BYTE 1,#", "BYTE 1,2,3,4,#", "TETRA #", "TETRA 1,#", "TETRA 1,2,3,4,#"
    };
    private static final String[] AHEAD = {
        "BN $1,#", "BZ $1,#", "BP $1,#", "BNN $1,#", "BNZ $1,#", "BNP $1,#", "GETA $1,#", "PUSHJ $1,#", "JMP #",
        "OCTA #", "OCTA 1,#", "OCTA 1,2,3,4,#", "OCTA #,#,1"
    };

    /** "in those ahead .. only as a whole OPERAND that is marked @, or one of OCTA". */
    private static void usedAhead() {
        for (String line : AHEAD_NOT) {
            fault(2, 1 + line.indexOf('#'), " " + line.replace('#', 'L') + "|L IS 4");
            fault(2, 1 + line.indexOf('#'), " " + line.replace('#', 'L') + "|L IS $4");
        }
        for (String line : AHEAD) {
            int at = 1 + line.indexOf('#');
            right(" " + line.replace('#', 'L') + "|L IS 4");
            fault(3, at, " " + line.replace('#', 'L') + "|L IS $4");
            fault(2, at, " " + line.replace('#', 'L') + "|M IS 4");
            fault(2, at, " " + line.replace("#", "L+0") + "|L IS 4");
            fault(2, at, " " + line.replace("#", "L-0") + "|L IS 4");
            fault(2, at + 2, " " + line.replace("#", "0+L") + "|L IS 4");
        }
        fault(2, 5, "A IS L|L IS 4");
    }

    /** "(and its own)". */
    private static void ownLine() {
        for (String line : AHEAD_NOT) {
            fault(2, 2 + line.indexOf('#'), "L " + line.replace('#', 'L'));
        }
        for (String line : AHEAD) {
            int at = 2 + line.indexOf('#');
            right("L " + line.replace('#', 'L'));
            fault(2, at, "L " + line.replace("#", "L+0"));
            fault(2, at + 2, "L " + line.replace("#", "0+L"));
        }
        fault(2, 5, "L IS L");
        octa(" BYTE 1|L OCTA 5,L", 16, 8);
        octa(" BYTE 1|L BZ $1,L", 0, 0x010000003D010000L);
        octa(" BYTE 1|L JMP L", 0, 0x0100000042000000L);
    }

    /** "LOC e: THE ADDRESS becomes e (ahead of the LABEL)"; "THE ADDRESS is not 0 to 65536 by LOC .. (at the OP)". */
    private static void locs() {
        octa(" LOC 1| LOC 0| BYTE 1", 0, 1L << 56);
        octa("A LOC 65536| LOC 0| OCTA A", 0, 65536);
        fault(5, 1, " LOC 65537");
        fault(5, 1, " LOC 0-1");
        fault(5, 1, " LOC #8000000000000000");
        fault(5, 1, " LOC 9223372036854775807");
        fault(5, 1, " LOC 4294967296");
        fault(5, 4, "ABC LOC 65537");
        fault(5, 12, " LOC 65536| LOC @+1");
        right(" LOC 65536| LOC @");
        right(" LOC 65535| LOC @+1");
    }

    /** "at THE ADDRESS made a multiple of 1, 4, 8, upwards (ahead of the LABEL)"; "Instructions .. (likewise)". */
    private static void alignment() {
        for (int from = 0; from <= 16; from++) {
            int four = from + 3 & -4;
            int eight = from + 7 & -8;
            String head = " LOC " + from + "|A ";
            String tail = "| LOC 64| OCTA A";
            octa(head + "BYTE 7" + tail, 64, from);
            octa(head + "TETRA 7" + tail, 64, four);
            octa(head + "OCTA 7" + tail, 64, eight);
            octa(head + "SWYM" + tail, 64, four);
            octa(head + "JMP A" + tail, 64, four);
            octa(head + tail, 64, from);
            octa(head + "IS @" + tail, 64, from);
            octa(head + "BYTE 7", from, 7L << 56 - 8 * (from & 7));
            octa(head + "TETRA 7", four, 7L << ((four & 4) == 0 ? 32 : 0));
            octa(head + "OCTA 7", eight, 7);
            octa(head + "SWYM", four, 0x50L << ((four & 4) == 0 ? 56 : 24));
        }
    }

    /** "the lowest 1, 4, 8 bytes of each are laid"; "THE ADDRESS goes on behind them". */
    private static void lowestBytes() {
        octa(" BYTE 0,255,256,#1FF,0-1,0-128,0-256,9223372036854775807", 0, 0x00FF00FFFF8000FFL);
        octa(" TETRA #FFFFFFFF,#100000000", 0, 0xFFFFFFFF00000000L);
        octa(" TETRA 0-1,#80000000", 0, 0xFFFFFFFF80000000L);
        octa(" OCTA 0-1,#8000000000000000", 8, Long.MIN_VALUE);
        octa(" OCTA 1,2,3,4,5,6| BYTE 7", 40, 6);
        octa(" OCTA 1,2,3,4,5,6| BYTE 7", 48, 7L << 56);
        octa(" TETRA 1,2,3,4,5|A OCTA A", 24, 24);
    }

    /** "BYTE also takes "bytes" (one or more, without ")". */
    private static void strings() {
        octa(" BYTE \"a\"", 0, 0x61L << 56);
        octa(" BYTE \"a'b,$ #\"", 0, 0x6127622C24202300L);
        octa(" BYTE \"a\",\"b\",3", 0, 0x616203L << 40);
        octa(" BYTE \"\0\u00FF\"", 0, 0x00FFL << 48);
        fault(1, 7, " BYTE \"\"");
        fault(1, 11, " BYTE \"a\",\"\"");
        fault(1, 7, " BYTE \"");
        fault(1, 7, " BYTE \"|");
        fault(1, 8, " BYTE \"a");
        fault(1, 8, " BYTE \"a|\"");
        fault(1, 9, " BYTE \"a\"\"b\"");
        fault(1, 9, " BYTE \"a\"1");
        fault(1, 9, " BYTE \"a\"+1");
        fault(1, 8, " BYTE 1+\"a\"");
        String[] others = {"TETRA ", "OCTA ", "LOC ", "JMP ", "TRAP ", "POP ", "SETL $1,", "ADD $1,$2,"};
        for (String other : others) {
            fault(1, 1 + other.length(), " " + other + "\"a\"");
        }
        fault(1, 5, "A IS \"a\"");
    }

    /** "$X,$Y,e (0 to 255, the odd op); $X,$Y (as with 0)". */
    private static void thirdOperand() {
        for (int i = 0; i < THREE.length; i++) {
            String name = THREE[i];
            long op = i < 15 ? 2 + 2 * i : 6 + 2 * i;
            int at = name.length() + 8;
            word(" " + name + " $1,$2,0", op + 1 << 24 | 0x010200);
            word(" " + name + " $1,$2,255", op + 1 << 24 | 0x0102FF);
            word(" " + name + " $1,$2", op + 1 << 24 | 0x010200);
            word(" " + name + " $1,$2,$0", op << 24 | 0x010200);
            word(" " + name + " $1,$2,$31", op << 24 | 0x01021F);
            fault(4, at, " " + name + " $1,$2,256");
            fault(4, at, " " + name + " $1,$2,0-1");
            fault(4, at, " " + name + " $1,$2,#8000000000000000");
            fault(1, at - 7, " " + name);
            fault(3, at - 4, " " + name + " $1");
            fault(3, at + 3, " " + name + " $1,$2,$3,$4");
            fault(3, at + 3, " " + name + " $1,$2,$3,");
            fault(3, at - 6, " " + name + " 1,$2");
            fault(3, at - 3, " " + name + " $1,2");
        }
    }

    /** "NEG $X,e,$Z; $X,e,e; $X,$Z (Y = 0) (e 0 to 255)". */
    private static void negations() {
        word(" NEG $31,0,$31", 0x201F001FL);
        word(" NEG $1,255,$2", 0x2001FF02L);
        word(" NEG $1,0,0", 0x21010000L);
        word(" NEG $1,255,255", 0x2101FFFFL);
        word(" NEG $1,$31", 0x2001001FL);
        fault(4, 8, " NEG $1,256,$2");
        fault(4, 8, " NEG $1,0-1,$2");
        fault(4, 8, " NEG $1,256");
        fault(4, 10, " NEG $1,1,256");
        fault(4, 10, " NEG $1,1,0-1");
        fault(1, 4, " NEG");
        fault(3, 7, " NEG $1");
        fault(3, 9, " NEG $1,1");
        fault(3, 9, " NEG $1,1 ,2");
        fault(3, 11, " NEG $1,$2,1");
        fault(3, 12, " NEG $1,1,2,3");
    }

    /** "by 4 times an offset of 16 bits .. with sign", told behind, ahead, and as a number. */
    private static void branchesReach() {
        for (int i = 0; i < BRANCH.length; i++) {
            String head = " " + BRANCH[i] + " $1,";
            int at = head.length();
            long op = i < 6 ? 60 + i : i == 6 ? 69 : 67;
            reach(head, at, op << 24 | 0x010000, 131068, 0xFFFF);
            fault(1, at - 4, " " + BRANCH[i]);
            fault(3, at - 1, " " + BRANCH[i] + " $1");
            fault(3, at - 3, " " + BRANCH[i] + " 4,4");
            fault(3, at, head + "$4");
            fault(3, at + 2, head + "@,1");
        }
    }

    /** "(24 for JMP)". */
    private static void jumpsReach() {
        reach(" JMP ", 5, 0x42L << 24, 33554428, 0xFFFFFF);
        fault(1, 4, " JMP");
        fault(3, 5, " JMP $4");
        fault(3, 7, " JMP @,1");
    }

    private static void reach(String head, int at, long word, int most, int mask) {
        long top = mask >> 1;
        word(head + most, word | top);
        word(head + "0-" + (most + 4), word | top + 1);
        word(head + "0-4", word | mask);
        word(head + "4", word | 1);
        word(head + "L|L IS " + most, word | top);
        word(head + "L|L IS 0-" + (most + 4), word | top + 1);
        word(head + "L|L IS 0-4", word | mask);
        word("L IS " + most + "|" + head + "L", word | top);
        fault(4, at, head + (most + 4));
        fault(4, at, head + "0-" + (most + 8));
        fault(4, at, head + "L|L IS " + (most + 4));
        fault(4, at, head + "L|L IS 0-" + (most + 8));
        fault(4, at, head + "L|L IS #8000000000000000");
        fault(4, at, head + "#8000000000000000");
        fault(4, at, head + "9223372036854775804");
        for (int off = 1; off < 4; off++) {
            fault(4, at, head + off);
            fault(4, at, head + "0-" + off);
            fault(4, at, head + "@+" + off);
            fault(4, at, head + "L|L IS " + off);
            fault(4, at, head + "L| LOC " + (8 + off) + "|L");
        }
    }

    /** The offset is told from the INSTRUCTION, wherever it is. */
    private static void reachFromTheEnd() {
        octa(" LOC 8| BZ $1,131076", 8, 0x3D017FFF00000000L);
        fault(4, 14, " LOC 8| BZ $1,131080");
        octa(" LOC 8| BZ $1,0-131064", 8, 0x3D01800000000000L);
        fault(4, 14, " LOC 8| BZ $1,0-131068");
        octa(" LOC 8| BZ $1,L|L IS 131076", 8, 0x3D017FFF00000000L);
        fault(4, 14, " LOC 8| BZ $1,L|L IS 131080");
        octa(" LOC 8| BZ $1,L|L IS 0-131064", 8, 0x3D01800000000000L);
        fault(4, 14, " LOC 8| BZ $1,L|L IS 0-131068");
        octa(" LOC 65532| JMP L|L IS 33619960", 65528, 0x427FFFFFL);
        fault(4, 16, " LOC 65532| JMP L|L IS 33619964");
        octa(" LOC 65532| BZ $1,L| LOC 0|L", 65528, 0x3D01C001L);
        octa(" JMP L| LOC 65536|L", 0, 0x4200400000000000L);
        octa(" LOC 5| JMP 8", 8, 0x4200000000000000L);
    }

    /** "SETL to INCH: $X,e (0 to 65535)". */
    private static void sets() {
        for (int i = 0; i < SET.length; i++) {
            String head = " " + SET[i] + " $1,";
            int at = head.length();
            word(head + "0", 70L + i << 24 | 0x010000);
            word(head + "65535", 70L + i << 24 | 0x01FFFF);
            fault(4, at, head + "65536");
            fault(4, at, head + "0-1");
            fault(1, at - 4, " " + SET[i]);
            fault(1, at, head);
            fault(3, at - 1, " " + SET[i] + " $1");
            fault(3, at - 3, " " + SET[i] + " 1,1");
            fault(3, at, head + "$1");
            fault(3, at + 2, head + "1,1");
        }
    }

    /** "GET $X,e (0 to 255). PUT e,$Z." */
    private static void getsAndPuts() {
        word(" GET $31,0", 0x4E1F0000L);
        word(" GET $0,255", 0x4E0000FFL);
        fault(4, 8, " GET $1,256");
        fault(4, 8, " GET $1,0-1");
        fault(1, 4, " GET");
        fault(3, 7, " GET $1");
        fault(3, 8, " GET $1,$2");
        fault(3, 5, " GET 1,1");
        fault(3, 10, " GET $1,1,1");
        word(" PUT 0,$31", 0x4F00001FL);
        word(" PUT 255,$0", 0x4FFF0000L);
        fault(4, 5, " PUT 256,$1");
        fault(4, 5, " PUT 0-1,$1");
        fault(1, 4, " PUT");
        fault(3, 6, " PUT 1");
        fault(3, 7, " PUT 1,1");
        fault(3, 5, " PUT $1,$1");
        fault(3, 10, " PUT 1,$1,1");
    }

    /** "POP e,e (0 to 255, 0 to 65535); e; nothing (0,0)". */
    private static void pops() {
        word(" POP", 0x44000000L);
        word(" POP  ", 0x44000000L);
        word(" POP 0", 0x44000000L);
        word(" POP 255", 0x44FF0000L);
        word(" POP 0,0", 0x44000000L);
        word(" POP 255,65535", 0x44FFFFFFL);
        fault(4, 5, " POP 256");
        fault(4, 5, " POP 0-1");
        fault(4, 7, " POP 0,65536");
        fault(4, 7, " POP 0,0-1");
        fault(3, 9, " POP 0,0,0");
        fault(3, 5, " POP $0");
        fault(3, 7, " POP 0,$0");
        fault(1, 7, " POP 0,");
    }

    /** "TRAP e,e,e (0 to 255); e (Z alone)". */
    private static void traps() {
        word(" TRAP 0,0,0", 0);
        word(" TRAP 255,255,255", 0x00FFFFFFL);
        word(" TRAP 255,0,0", 0x00FF0000L);
        word(" TRAP 0,255,0", 0x0000FF00L);
        word(" TRAP 255", 0x000000FFL);
        fault(4, 6, " TRAP 256");
        fault(4, 6, " TRAP 0-1");
        fault(4, 6, " TRAP 256,0,0");
        fault(4, 8, " TRAP 0,256,0");
        fault(4, 10, " TRAP 0,0,256");
        fault(4, 10, " TRAP 0,0,0-1");
        fault(1, 5, " TRAP");
        fault(3, 9, " TRAP 0,0");
        fault(3, 9, " TRAP 0,0 ,0");
        fault(3, 12, " TRAP 0,0,0,0");
        fault(3, 6, " TRAP $0");
        fault(3, 10, " TRAP 0,0,$0");
    }

    /** "anything behind SWYM". */
    private static void swym() {
        word(" SWYM", 0x50000000L);
        word(" SWYM   ", 0x50000000L);
        fault(3, 6, " SWYM 0");
        fault(3, 6, " SWYM ,");
        fault(3, 6, " SWYM ;");
        fault(3, 7, " SWYM  *|");
    }

    /** "no OPERAND where one has to begin (behind an OP that takes one at least ..) .. (.. at the line's end ..)". */
    private static void noOperands() {
        String[] names = {
            "NEG", "JMP", "GET", "PUT", "TRAP", "LOC", "BYTE", "TETRA", "OCTA", "BZ", "GETA", "PUSHJ", "SETL", "LDO"
        };
        for (String name : names) {
            int end = 1 + name.length();
            fault(1, end, " " + name);
            fault(1, end, " " + name + "|");
            fault(1, end + 3, " " + name + "   ");
            fault(1, end + 3, " " + name + "   | SWYM");
            fault(1, end + 1, " " + name + " *");
            fault(1, end + 1, " " + name + " ,");
            fault(1, end + 1, " " + name + " +1");
        }
        fault(1, 4, "A IS");
        fault(1, 6, "A IS  | SWYM");
        fault(1, 1, " IS");
        fault(1, 1, " IS 1");
    }

    /** As many uses of a LABEL ahead as the calls of an object can bring. */
    private static void manyUses() {
        StringBuilder text = new StringBuilder(" OCTA A");
        for (int i = 1; i < 4990; i++) {
            text.append(",A");
        }
        PagedMachine m = Tester.assembled(text + "|A");
        Tester.due("the first use", m.octa(0), 8 * 4990);
        Tester.due("the last use", m.octa(8 * 4989), 8 * 4990);
        Tester.due("nothing behind", m.octa(8 * 4990), 0);
    }

    /** "A run begins at the LABEL Main, if there is one that is no REGISTER and not told by IS; else at 0." */
    private static void mains() {
        String[] texts = {
            " LOC 8|Main", " LOC 8|Main SWYM", " LOC 5|Main SWYM", "Main LOC 8", " LOC 1|Main OCTA 1",
            " LOC 8| JMP Main| LOC 8|Main"
        };
        for (String text : texts) {
            Tester.due("THE PLACE of " + text, Tester.assembled(text).register(37), 8);
        }
        Tester.due("odd", Tester.assembled(" LOC 65535|Main BYTE 1").register(37), 65535);
        Tester.due("behind the last", Tester.assembled(" LOC 65536|Main").register(37), 65536);
        String[] others = {
            " LOC 8|main", " LOC 8|MAIN", " LOC 8|Mai", " LOC 8|Main1", "Main IS 8", "Main IS $8", " LOC 8", "",
            " JMP Main|Main IS 8", " LOC 8|Main IS @"
        };
        for (String text : others) {
            Tester.due("THE PLACE of " + text, Tester.assembled(text).register(37), 0);
        }
    }
}
