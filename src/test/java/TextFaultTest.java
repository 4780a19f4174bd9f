/** Promises 5 (assemble) and 7 (fault) for texts with a fault. */
public final class TextFaultTest {
    public static void main(String[] args) {
        noOp();
        noOperand();
        noTerm();
        tooGreat();
        strings();
        labels();
        ahead();
        kinds();
        registersInSums();
        counts();
        fits();
        settled();
        laid();
        laidUpToTheEnd();
        laidWhenRight();
        laidWhenNotTooMany();
        manyLabels();
        labelsAreCountedOnce();
        neverTold();
        order();
        firstSeen();
        told();
        Tester.finish("TextFaultTest");
    }

    private static void fault(int number, int place, String lines) {
        Tester.textFault(number, place, lines);
    }

    private static void noOp() {
        fault(1, 1, " FOO");
        fault(1, 3, "A  add $1,$2");
        fault(1, 1, " ADDX $1,$2");
        fault(1, 1, " AD $1,$2");
        fault(1, 1, " ADD,1");
        fault(1, 1, " SWYM;");
        fault(1, 1, " SETMLX $1,2");
        fault(1, 10, " BYTE 1|  ;");
        fault(1, 1, " \u008E $1,@");
        fault(1, 1, " AAAAAAAAAAAAPUSHJ $1,@");
        fault(1, 1, " @ADD $1,$2");
        fault(1, 1, " \t");
        fault(1, 1, " IS 5");
        fault(1, 1, " IS");
        fault(0, -1, "A IS 5");
        fault(1, 1, "A\tSWYM");
        fault(1, 1, "A:");
        fault(1, 2, "A1, SWYM");
    }

    private static void noOperand() {
        fault(1, 4, " ADD");
        fault(1, 6, " ADD  ");
        fault(1, 6, " ADD  | SWYM");
        fault(1, 5, " ADD *");
        fault(1, 5, " ADD ,$1");
        fault(1, 8, " ADD $1,");
        fault(1, 8, " ADD $1,| SWYM");
        fault(1, 8, " ADD $1, $2");
        fault(1, 8, " OCTA 1,,2");
        fault(1, 5, " BYTE");
        fault(1, 4, " LOC");
        fault(1, 4, "A IS");
        fault(1, 5, "A IS ");
        fault(1, 4, " JMP");
        fault(1, 5, " TRAP");
        fault(1, 5, " POP *");
        fault(1, 7, " POP 1,");
        fault(1, 5, " POP ,1");
    }

    private static void noTerm() {
        fault(1, 6, " OCTA -1");
        fault(1, 6, " OCTA +1");
        fault(1, 8, " OCTA 1+");
        fault(1, 8, " OCTA 1+ 2");
        fault(1, 8, " OCTA 1--2");
        fault(1, 8, " OCTA 1+*2");
        fault(1, 7, " OCTA 1*2");
        fault(1, 7, " OCTA 1a");
        fault(1, 7, " OCTA @1");
        fault(1, 9, " OCTA 'a'b");
        fault(1, 7, " OCTA #");
        fault(1, 7, " OCTA #g");
        fault(1, 8, " OCTA #1g");
        fault(1, 6, " ADD $");
        fault(1, 6, " ADD $x,$1");
        fault(1, 7, " ADD $1x,$1");
        fault(1, 7, " ADD $1$2");
        fault(1, 6, " OCTA \"a\"");
        fault(1, 9, " SETL $1,\"a\"");
        fault(1, 14, "A IS 5| OCTA A.");
    }

    private static void tooGreat() {
        fault(0, -1, " OCTA 9223372036854775807");
        fault(1, 6, " OCTA 9223372036854775808");
        fault(1, 8, " OCTA 1+99999999999999999999999");
        fault(0, -1, " OCTA #FFFFFFFFFFFFFFFF");
        fault(1, 6, " OCTA #10000000000000000");
        fault(1, 6, " OCTA #00000000000000000");
        fault(1, 5, " ADD $32,$1");
        fault(1, 8, " ADD $1,$99999999999999999999");
        fault(0, -1, " ADD $31,$0031");
        fault(0, -1, "abcdefghijkl SWYM");
        fault(1, 0, "abcdefghijklm SWYM");
        fault(1, 6, "; pas|abcdefghijklm*");
        fault(1, 5, " JMP abcdefghijklm");
    }

    private static void strings() {
        fault(0, -1, " BYTE \"a\",\"b c\" \"");
        fault(1, 7, " BYTE \"\"");
        fault(1, 7, " BYTE \"\",1");
        fault(1, 7, " BYTE \"");
        fault(1, 10, " BYTE \"abc| BYTE \"");
        fault(1, 9, " BYTE \"a\"b");
        fault(1, 9, " BYTE \"a\"+1");
        fault(1, 8, " BYTE 1+\"a\"");
        fault(1, 7, " BYTE '");
        fault(1, 7, " BYTE '|'");
        fault(1, 8, " BYTE 'a");
        fault(1, 8, " BYTE 'ab'");
        fault(1, 8, " BYTE ''");
        fault(1, 8, " BYTE '',1");
    }

    private static void labels() {
        fault(2, 7, "X IS 5|X IS 6");
        fault(2, 2, "X|X");
        fault(2, 2, "X|X*");
        fault(2, 9, "X SWYM|Y|X FOO");
        fault(0, -1, "X|x|X1|X2");
        fault(2, 16, " JMP X|X SWYM| |X SWYM");
    }

    private static void ahead() {
        fault(0, -1, " JMP Y| BZ $1,Y| PUSHJ $1,Y| GETA $1,Y| OCTA 1,Y|Y");
        fault(2, 5, " JMP Y");
        fault(2, 6, " OCTA Y,Z|Z");
        fault(2, 12, " JMP Z| JMP Y| OCTA X|Z|X");
        fault(2, 9, " SETL $1,Z|Z");
        fault(2, 9, " SETL $1,Z*");
        fault(1, 6, " JMP Z*");
        fault(2, 5, " JMP Z+4|Z");
        fault(2, 7, " JMP 4+Z|Z");
        fault(2, 6, " OCTA Z-1|Z");
        fault(2, 6, " BYTE Z|Z");
        fault(2, 7, " TETRA Z|Z");
        fault(2, 5, " LOC Z|Z");
        fault(2, 5, "A IS Z|Z");
        fault(2, 5, " ADD Z,$1|Z IS $1");
        fault(2, 4, " BZ Z,Z|Z IS $1");
        fault(2, 5, "A IS A");
        fault(2, 6, "A LOC A");
        fault(2, 7, "A BYTE A");
        fault(2, 6, "A JMP A+4");
        fault(2, 7, "A OCTA A-A");
        fault(2, 10, "A SETL $1,A");
    }

    private static void kinds() {
        fault(3, 5, " ADD 1,$2,$3");
        fault(3, 8, " ADD $1,2,$3");
        fault(3, 8, " ADD $1,2");
        fault(3, 6, " SETL 1,2");
        fault(3, 9, " SETL $1,$2");
        fault(3, 5, " NEG 1,$2");
        fault(3, 7, " BZ $1,$2");
        fault(3, 4, " BZ 1,@");
        fault(3, 5, " JMP $1");
        fault(3, 8, " GET $1,$2");
        fault(3, 5, " PUT $1,$2");
        fault(3, 7, " PUT 1,2");
        fault(3, 5, " POP $1");
        fault(3, 7, " POP 1,$1");
        fault(3, 6, " TRAP $1");
        fault(3, 8, " TRAP 1,$1,1");
        fault(3, 5, " LOC $1");
        fault(3, 6, " BYTE $1");
        fault(3, 7, " TETRA $1");
        fault(3, 8, " OCTA 1,$1");
        fault(3, 14, "A IS $2| OCTA A");
        fault(3, 13, "A IS $2| JMP A");
        fault(3, 12, "A IS 2| ADD A,$1");
    }

    /** $ and digits are no term; a label that is a register is one, and is seen with its operand's end. */
    private static void registersInSums() {
        fault(1, 7, "A IS $1+1");
        fault(1, 7, "A IS 1+$1");
        fault(1, 11, " SETL $1,1+$3");
        fault(1, 8, " OCTA 1-$x");
        fault(1, 6, " SL $2-1");
        fault(1, 7, " ADD $1+1,$2");
        fault(1, 8, " OCTA $1-*");
        fault(1, 7, " ADD $1-$1,$2");
        fault(1, 6, " ADD $+1,$2");
        fault(1, 5, " ADD $32+1,$2");
        fault(1, 16, "A IS $2| OCTA A+$1");
        fault(3, 14, "A IS $2| OCTA A+1");
        fault(3, 14, "A IS $2| OCTA 1-A");
        fault(3, 14, "A IS $2| OCTA 1-A+2,*");
        fault(3, 13, "A IS $2| ADD A+0,$1");
        fault(3, 13, "A IS $2| ADD A-A,$1");
        fault(3, 19, "A IS $2| ADD $1,$2,0+A");
        fault(3, 13, "A IS $2|B IS 0+A");
        fault(1, 18, "A IS $2| OCTA 1-A+*");
        fault(1, 17, "A IS $2| OCTA 1-A*");
        fault(1, 16, "A IS $2| OCTA A+");
        fault(2, 16, "A IS $2| OCTA A+B|B");
        fault(0, -1, "A IS $2| ADD A,A,A");
    }

    private static void counts() {
        fault(3, 7, " ADD $1");
        fault(3, 7, " ADD $1 ,$2");
        fault(3, 14, " ADD $1,$2,$3,$4");
        fault(3, 14, " ADD $1,$2,$3,");
        fault(3, 7, " JMP @,@");
        fault(3, 7, " JMP @,*");
        fault(3, 6, " BZ $1");
        fault(3, 9, " BZ $1,@,1");
        fault(3, 8, " SETL $1");
        fault(3, 11, " SETL $1,2,3");
        fault(3, 10, " GET $1,2,");
        fault(3, 6, " PUT 1");
        fault(3, 10, " PUT 1,$1,");
        fault(3, 9, " POP 1,2,3");
        fault(3, 9, " TRAP 1,2");
        fault(3, 9, " TRAP 1,2 3");
        fault(3, 12, " TRAP 1,2,3,4");
        fault(3, 7, " NEG $1");
        fault(3, 9, " NEG $1,5");
        fault(3, 11, " NEG $1,$2,$3");
        fault(3, 12, " NEG $1,5,6,7");
        fault(3, 7, "A IS 1,2");
        fault(3, 7, " LOC 1,2");
        fault(3, 6, " SWYM 1");
        fault(3, 8, " SWYM   ; words");
    }

    private static void fits() {
        fault(4, 11, " ADD $1,$2,256");
        fault(4, 11, " ADD $1,$2,0-1");
        fault(4, 8, " NEG $1,256,$2");
        fault(4, 10, " NEG $1,1,256");
        fault(4, 8, " NEG $1,0-1");
        fault(4, 9, " SETL $1,65536");
        fault(4, 9, " INCH $1,0-1");
        fault(4, 8, " GET $1,256");
        fault(4, 5, " PUT 256,$1");
        fault(4, 5, " POP 256");
        fault(4, 7, " POP 1,65536");
        fault(4, 6, " TRAP 256");
        fault(4, 10, " TRAP 1,2,256");
        fault(4, 7, " BZ $1,2");
        fault(4, 7, " BZ $1,131072");
        fault(4, 7, " BZ $1,0-131076");
        fault(4, 5, " JMP 33554432");
        fault(4, 5, " JMP 0-33554436");
        fault(4, 5, " JMP 1");
        fault(1, 12, " SETL $1,256*");
    }

    private static void settled() {
        fault(3, 13, "A IS $3| JMP B|B IS $2");
        fault(3, 6, " OCTA B|B IS $2");
        fault(4, 5, " JMP B|B IS 2");
        fault(4, 5, " JMP B| BYTE 1|B");
        fault(4, 13, " OCTA B| JMP B| JMP B| BYTE 1|B");
        fault(4, 7, " BZ $1,B|B IS 131072");
        fault(0, -1, " BZ $1,B|B IS 131068");
        fault(4, 5, " JMP B|B IS 33554432");
        fault(4, 5, " JMP B| BYTE 1|B BYTE");
        fault(1, 17, " JMP B| BYTE 1|B FOO");
        fault(4, 5, " JMP B|B IS 1 1");
        fault(3, 14, " JMP B|B IS 1,");
    }

    private static void laid() {
        fault(0, -1, " LOC 65536");
        fault(5, 1, " LOC 65537");
        fault(5, 2, "A LOC 0-1");
        fault(5, 12, " LOC 65535| TETRA 1");
        fault(5, 12, " LOC 65535| BYTE 1,2");
        fault(5, 12, " LOC 65535| BYTE \"ab\"");
        fault(5, 12, " LOC 65534| BYTE 1,2,3,*");
        fault(1, 21, " LOC 65534| BYTE 1,2,*");
        fault(5, 12, " LOC 65536| SWYM");
        fault(5, 12, " LOC 65533| ADD $1,$2");
        fault(0, -1, " LOC 65532| ADD $1,$2");
        fault(0, -1, " LOC 65529| TETRA 1");
        fault(5, 12, " LOC 65529| OCTA 1");
        fault(3, 22, " LOC 65533| SETL $1,1,");
        fault(3, 11, " LOC 65537,1");
    }

    /** "something is laid beyond 65535 (at the OP ..)". */
    private static void laidUpToTheEnd() {
        fault(0, -1, " LOC 65535| BYTE 1");
        fault(5, 12, " LOC 65536| BYTE 1");
        fault(0, -1, " LOC 65533| BYTE \"abc\"");
        fault(5, 12, " LOC 65534| BYTE \"abc\"");
        fault(5, 13, " LOC 65533|A BYTE \"abc\",1");
        fault(0, -1, " LOC 65532| TETRA 1");
        fault(5, 12, " LOC 65532| TETRA 1,2");
        fault(5, 12, " LOC 65533| TETRA 1");
        fault(0, -1, " LOC 65528| OCTA 1");
        fault(0, -1, " LOC 65521| OCTA 1");
        fault(5, 12, " LOC 65528| OCTA 1,2");
        fault(5, 12, " LOC 65532| OCTA 1");
        fault(5, 12, " LOC 65529| OCTA A|A");
        fault(0, -1, " LOC 65532| SWYM");
        fault(0, -1, " LOC 65529| SWYM");
        fault(5, 18, " LOC 65532| SWYM| SWYM");
        fault(5, 12, " LOC 65533| SWYM");
        fault(5, 12, " LOC 65536| POP");
        fault(5, 21, " JMP A| LOC 65536|A  JMP A");
        fault(0, -1, " JMP A| LOC 65536|A|B IS 1");
    }

    /** "an e of BYTE, TETRA, OCTA is laid when it has been read, its end seen, and it is right". */
    private static void laidWhenRight() {
        fault(1, 18, " LOC 65536| BYTE 1*");
        fault(3, 17, " LOC 65536| BYTE $1");
        fault(1, 17, " LOC 65536| BYTE *");
        fault(1, 16, " LOC 65536| BYTE");
        fault(2, 17, " LOC 65536| BYTE A");
        fault(1, 18, " LOC 65536| BYTE \"\"");
        fault(1, 19, " LOC 65536| BYTE \"a");
        fault(5, 12, " LOC 65536| BYTE 1,");
        fault(5, 12, " LOC 65536| BYTE 1,*");
        fault(5, 12, " LOC 65535| BYTE 1,2,$3");
        fault(3, 19, " LOC 65535| BYTE 1,$2");
        fault(5, 12, " LOC 65528| OCTA 1,A,*");
    }

    /** "an instruction, and LOC, when there is not one OPERAND too many". */
    private static void laidWhenNotTooMany() {
        fault(4, 22, " LOC 65536| ADD $1,$2,256");
        fault(3, 16, " LOC 65536| ADD 1,$2");
        fault(3, 18, " LOC 65536| ADD $1");
        fault(3, 25, " LOC 65536| ADD $1,$2,$3,");
        fault(5, 12, " LOC 65536| ADD $1,$2,$3 ,");
        fault(3, 18, " LOC 65536| JMP @,1");
        fault(3, 17, " LOC 65536| SWYM 1");
        fault(3, 11, " LOC 65537,");
        fault(1, 10, " LOC 65537*");
        fault(5, 1, " LOC 65537 ,");
        fault(2, 11, " LOC 65537-A");
    }

    private static void manyLabels() {
        StringBuilder text = new StringBuilder();
        for (int i = 100; i < 400; i++) {
            text.append('L').append(i).append('|');
        }
        String most = text.toString();
        fault(0, -1, most);
        fault(6, 1500, most + "M");
        fault(6, 1500, most + "M FOO");
        fault(6, 1505, most + " JMP M");
        fault(6, 1506, most + " OCTA M");
        fault(1, 1506, most + " JMP M*");
        fault(2, 1505, most + " JMP M+1");
        fault(0, -1, most + " JMP L100");
        fault(2, 1500, most + "L100");
    }

    /** "more than 300 LABELS (at it: told, or used ahead ..)"; a LABEL that is used and told is one. */
    private static void labelsAreCountedOnce() {
        StringBuilder uses = new StringBuilder();
        StringBuilder tells = new StringBuilder();
        for (int i = 100; i < 400; i++) {
            uses.append(" OCTA L").append(i).append('|');
            tells.append('L').append(i).append('|');
        }
        int length = uses.length();
        fault(0, -1, uses + "" + tells);
        fault(0, -1, uses + "" + uses + tells);
        fault(6, length + 6, uses + " OCTA M|" + tells);
        fault(6, length + 8, uses + " OCTA 1,M|" + tells);
        fault(6, length + 7, uses + " BZ $1,M|" + tells);
        fault(6, length, uses + "M|" + tells);
        fault(2, length + 6, uses + " BYTE M|" + tells);
        fault(2, length + 6, uses + " OCTA M+1|" + tells);
        fault(6, length + tells.length(), uses + "" + tells + "M IS $1");
        fault(2, length + tells.length(), uses + "" + tells + "L399");
        fault(1, length, uses + "abcdefghijklm");
    }

    /** "At the end: 2 for the first use of a LABEL that was never told." */
    private static void neverTold() {
        fault(2, 5, " JMP A");
        fault(2, 5, " JMP A|");
        fault(2, 5, " JMP A|B|a");
        fault(2, 5, " JMP A| JMP B| JMP A|B");
        fault(2, 12, " JMP A| JMP B| JMP B|A");
        fault(2, 6, " OCTA A,B| JMP C");
        fault(2, 8, " OCTA A,B| JMP C|A");
        fault(2, 15, " OCTA A,B| JMP C|B|A");
        fault(0, -1, " OCTA A,B| JMP C|B|A|C");
        fault(1, 8, " JMP A| FOO");
    }

    private static void order() {
        fault(1, 1, " FOO|X|X");
        fault(2, 2, "X|X| FOO");
        fault(4, 9, " SETL $1,65536,*");
        fault(3, 8, " ADD $1,2,*");
        fault(1, 9, " OCTA 1,2x");
    }

    /** "the first that is seen, as it is read byte by byte": each line has two faults. */
    private static void firstSeen() {
        fault(2, 2, "X|X FOO");
        fault(2, 5, "A IS Z+*");
        fault(1, 7, "A IS 1+*,2");
        fault(3, 14, "A IS $2| OCTA A,*");
        fault(1, 15, "A IS $2| OCTA A*,");
        fault(4, 8, " NEG $1,256,$32");
        fault(1, 11, " NEG $1,256$");
        fault(3, 5, " ADD 1,$32");
        fault(1, 5, " ADD $32,1");
        fault(4, 6, " TRAP 256,1");
        fault(3, 9, " TRAP 1,2|X|X");
        fault(4, 5, " POP 256,65536,1");
        fault(4, 5, " JMP A| LOC 2|A BYTE *");
        fault(1, 16, " JMP A| LOC 2|A FOO");
        fault(4, 5, " JMP A| LOC 2|A| FOO");
        fault(3, 5, " JMP A|A IS $1| FOO");
        fault(5, 8, " JMP A| LOC 65537|A IS $1");
        fault(2, 16, " JMP A| LOC 2|B|B|A");
    }

    /** The fault is that of the latest call. */
    private static void told() {
        PagedMachine m = new PagedMachine();
        Tester.due("assemble", Tester.assemble(m, " FOO"), -1);
        Tester.due("fault(0)", m.fault(0), 1);
        Tester.due("fault(1)", m.fault(1), 1);
        Tester.due("fault(2)", m.fault(2), 0);
        Tester.due("fault(-1)", m.fault(-1), 0);
        Tester.due("run leaves it", m.run(1), -1);
        Tester.due("fault(0)", m.fault(0), 1);
        Tester.due("load", Tester.load(m, 1), -1);
        Tester.due("fault(0)", m.fault(0), 11);
        Tester.due("fault(1)", m.fault(1), 0);
        Tester.due("assemble", Tester.assemble(m, " SWYM"), 0);
        Tester.due("fault(0)", m.fault(0), 0);
        Tester.due("fault(1)", m.fault(1), -1);
    }
}
