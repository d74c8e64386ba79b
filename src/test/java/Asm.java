/** Instruction words by name, and small programs for the tests. */
final class Asm {
    static final int AND = 2, JSB = 3, XOR = 4, JMP = 5, IOR = 6, ISZ = 7, ADA = 8, ADB = 9;
    static final int CPA = 10, CPB = 11, LDA = 12, LDB = 13, STA = 14, STB = 15;
    static final int HLT = 0, FLG = 1, SFC = 2, SFS = 3, MI = 4, LI = 5, OT = 6, CTL = 7;
    static final int INDIRECT = 0x8000, HERE = 0x0400, ON_B = 0x0800, CLEAR = 0x0200;
    static final int MPY = 0100200, DIV = 0100400, DLD = 0104200, DST = 0104400;
    static final int ASL = 0100020, ASR = 0101020, LSL = 0100040, LSR = 0101040, RRL = 0100100, RRR = 0101100;

    private Asm() {
    }

    static int mem(int op, int place) {
        return op << 11 | place;
    }

    static int io(int kind, int sc) {
        return 0x8400 | kind << 6 | sc;
    }

    static int stf(int sc) {
        return io(FLG, sc);
    }

    static int clf(int sc) {
        return io(FLG, sc) | CLEAR;
    }

    static int stc(int sc) {
        return io(CTL, sc);
    }

    static int clc(int sc) {
        return io(CTL, sc) | ON_B;
    }

    /** A new machine with a program at 64 that P stands on. */
    static OctalHouse with(int... program) {
        OctalHouse x = new OctalHouse();
        load(x, 64, program);
        x.go(64);
        return x;
    }

    static void load(OctalHouse x, int at, int... words) {
        for (int i = 0; i < words.length; i++) {
            x.set(at + i, words[i]);
        }
    }

    /** The same, with A and B given, after as many turns as the program has words. */
    static OctalHouse ran(int a, int b, int... program) {
        OctalHouse x = with(program);
        x.set(0, a);
        x.set(1, b);
        x.run(program.length);
        return x;
    }
}
