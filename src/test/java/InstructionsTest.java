/** Instructions that need no select code: memory, shift, alter and skip, double words. */
public final class InstructionsTest {
    public static void main(String[] args) {
        logic();
        additions();
        compares();
        loadsAndStores();
        pages();
        jumps();
        increments();
        beyondMemory();
        indirection();
        shifts();
        shiftOrder();
        alterations();
        asking();
        multiply();
        divide();
        doubleLoads();
        longShifts();
        othersDoNothing();
        Check.end("InstructionsTest");
    }

    private static void see(String what, OctalHouse x, int a, int b, int p) {
        Check.due(what + ": A", x.state(0), a);
        Check.due(what + ": B", x.state(1), b);
        Check.due(what + ": P", x.state(2), p);
    }

    /** One memory instruction with A and B given and a word at 100. */
    private static OctalHouse one(int op, int a, int b, int it) {
        OctalHouse x = Asm.with(Asm.mem(op, 100));
        x.set(0, a);
        x.set(1, b);
        x.set(100, it);
        x.run(1);
        return x;
    }

    private static void logic() {
        see("AND", one(Asm.AND, 0xF0F0, 5, 0x3C3C), 0x3030, 5, 65);
        see("XOR", one(Asm.XOR, 0xF0F0, 5, 0x3C3C), 0xCCCC, 5, 65);
        see("IOR", one(Asm.IOR, 0xF0F0, 5, 0x3C3C), 0xFCFC, 5, 65);
    }

    private static void sum(int a, int it, int due, int e, int o) {
        OctalHouse x = one(Asm.ADA, a, 9, it);
        see("ADA " + a + " " + it, x, due, 9, 65);
        Check.due("E", x.state(3), e);
        Check.due("O", x.state(4), o);
        OctalHouse y = one(Asm.ADB, 9, a, it);
        see("ADB " + a + " " + it, y, 9, due, 65);
        Check.due("E", y.state(3), e);
        Check.due("O", y.state(4), o);
    }

    private static void additions() {
        sum(5, 7, 12, 0, 0);
        sum(32767, 1, 32768, 0, 1);
        sum(65535, 1, 0, 1, 0);
        sum(32768, 32768, 0, 1, 1);
        sum(32768, 65535, 32767, 1, 1);
        sum(32767, 32768, 65535, 0, 0);
        sum(65535, 65535, 65534, 1, 0);
        OctalHouse x = Asm.with(Asm.mem(Asm.ADA, 100), Asm.mem(Asm.ADA, 101), Asm.mem(Asm.ADA, 101));
        x.set(0, 32768);
        x.set(100, 32768);
        x.set(101, 1);
        x.run(3);
        Check.due("a later sum leaves E", x.state(3), 1);
        Check.due("a later sum leaves O", x.state(4), 1);
    }

    private static void compares() {
        see("CPA unlike", one(Asm.CPA, 4, 5, 5), 4, 5, 66);
        see("CPA like", one(Asm.CPA, 5, 4, 5), 5, 4, 65);
        see("CPB unlike", one(Asm.CPB, 5, 4, 5), 5, 4, 66);
        see("CPB like", one(Asm.CPB, 4, 5, 5), 4, 5, 65);
        OctalHouse x = new OctalHouse();
        x.go(32767);
        x.set(0, Asm.mem(Asm.JMP, 64));
        x.run(1);
        Check.due("P goes round", x.state(2), 0);
    }

    private static void loadsAndStores() {
        see("LDA", one(Asm.LDA, 1, 2, 40000), 40000, 2, 65);
        see("LDB", one(Asm.LDB, 1, 2, 40000), 1, 40000, 65);
        Check.due("STA", one(Asm.STA, 50000, 2, 3).word(100), 50000);
        Check.due("STB", one(Asm.STB, 1, 60000, 3).word(100), 60000);
        see("STA to B", Asm.ran(7, 8, Asm.mem(Asm.STA, 1)), 7, 7, 65);
        see("LDA of B", Asm.ran(7, 8, Asm.mem(Asm.LDA, 1)), 8, 8, 65);
    }

    private static void pages() {
        OctalHouse x = new OctalHouse();
        x.set(2047, Asm.mem(Asm.LDA, 5) | Asm.HERE);
        x.set(2048, Asm.mem(Asm.LDB, 5) | Asm.HERE);
        x.set(2049, Asm.mem(Asm.LDA, 5));
        x.set(1024 + 5, 11);
        x.set(2048 + 5, 22);
        x.set(5, 33);
        x.go(2047);
        x.run(2);
        see("the page is that of the instruction", x, 11, 22, 2049);
        x.run(1);
        see("page 0", x, 33, 22, 2050);
    }

    private static void jumps() {
        see("JMP", Asm.ran(1, 2, Asm.mem(Asm.JMP, 300)), 1, 2, 300);
        OctalHouse x = Asm.ran(1, 2, Asm.mem(Asm.JSB, 300));
        see("JSB", x, 1, 2, 301);
        Check.due("JSB: the word", x.word(300), 65);
        Check.due("JSB: not HELD OFF", x.state(6), 0);
        OctalHouse y = Asm.with(Asm.mem(Asm.JMP, 100) | Asm.INDIRECT);
        y.set(100, 300);
        y.run(1);
        see("JMP INDIRECT", y, 0, 0, 300);
        Check.due("JMP INDIRECT: HELD OFF", y.state(6), 1);
        y.run(1);
        Check.due("for one TURN", y.state(6), 0);
        OctalHouse z = Asm.with(Asm.mem(Asm.JSB, 100) | Asm.INDIRECT);
        z.set(100, 32767);
        z.run(1);
        Check.due("JSB goes round", z.state(2), 0);
        Check.due("JSB INDIRECT: HELD OFF", z.state(6), 1);
        OctalHouse w = Asm.with(Asm.mem(Asm.LDA, 100) | Asm.INDIRECT);
        w.run(1);
        Check.due("LDA INDIRECT: not HELD OFF", w.state(6), 0);
    }

    private static void increments() {
        OctalHouse x = one(Asm.ISZ, 1, 2, 65534);
        see("ISZ", x, 1, 2, 65);
        Check.due("ISZ: the word", x.word(100), 65535);
        OctalHouse y = one(Asm.ISZ, 1, 2, 65535);
        see("ISZ to 0", y, 1, 2, 66);
        Check.due("ISZ: the word", y.word(100), 0);
        Check.due("ISZ: no E", y.state(3), 0);
        see("ISZ of A", Asm.ran(65535, 2, Asm.mem(Asm.ISZ, 0)), 0, 2, 66);
    }

    private static void beyondMemory() {
        OctalHouse x = Asm.with(Asm.mem(Asm.STA, 100) | Asm.INDIRECT, Asm.mem(Asm.LDB, 100) | Asm.INDIRECT,
            Asm.mem(Asm.ISZ, 100) | Asm.INDIRECT, Asm.mem(Asm.JMP, 100) | Asm.INDIRECT);
        x.set(0, 5);
        x.set(1, 6);
        x.set(100, 4096);
        x.run(2);
        see("a word above 4095 is 0", x, 5, 0, 66);
        x.run(1);
        Check.due("ISZ above 4095 makes 1", x.state(2), 67);
        x.run(2);
        Check.due("a word 0 there does nothing", x.state(2), 4097);
    }

    private static void indirection() {
        for (int levels = 1; levels <= 34; levels++) {
            OctalHouse x = Asm.with(Asm.mem(Asm.LDA, 200) | Asm.INDIRECT);
            for (int i = 0; i < levels - 1; i++) {
                x.set(200 + i, 0x8000 | 201 + i);
            }
            x.set(200 + levels - 1, 50);
            x.set(50, 77);
            Check.due("turns", x.run(1), 1);
            Check.due(levels + " levels: A", x.state(0), levels <= 32 ? 77 : 0);
            Check.due(levels + " levels: HALTED", x.state(7), levels <= 32 ? 0 : 1);
            Check.due(levels + " levels: code", x.state(8), levels <= 32 ? -1 : 64);
        }
        OctalHouse y = Asm.with(Asm.mem(Asm.JSB, 100) | Asm.INDIRECT);
        y.set(100, 0x8000 | 100);
        y.run(1);
        Check.due("a JSB that halts: P", y.state(2), 65);
        Check.due("a JSB that halts: HELD OFF", y.state(6), 0);
        Check.due("a JSB that halts: the word", y.word(100), 0x8000 | 100);
        OctalHouse z = Asm.with(Asm.DST, 0x8000 | 100);
        z.set(100, 0x8000 | 100);
        z.run(1);
        Check.due("a DST that halts: P is behind its address", z.state(2), 66);
        Check.due("a DST that halts: code", z.state(8), 64);
    }

    private static void shift(int kind, int v, int e, int due, int dueE) {
        int setE = e == 0 ? 0x0440 : 0x04C0;
        OctalHouse x = Asm.ran(v, 21, setE, 0x0200 | kind << 6);
        see("SHIFT " + kind + " of A", x, due, 21, 66);
        Check.due("E", x.state(3), dueE);
        OctalHouse y = Asm.ran(21, v, setE, 0x0810 | kind);
        see("SHIFT " + kind + " of B, later", y, 21, due, 66);
        Check.due("E", y.state(3), dueE);
        OctalHouse z = Asm.ran(v, 21, setE, kind << 6 | kind & 7);
        see("no SHIFT " + kind, z, v, 21, 66);
    }

    private static void shifts() {
        shift(0, 0xC001, 1, 0x8002, 1);
        shift(0, 0x4001, 0, 0x0002, 0);
        shift(1, 0x8003, 0, 0xC001, 0);
        shift(1, 0x4003, 0, 0x2001, 0);
        shift(2, 0x8001, 0, 0x0003, 0);
        shift(3, 0x0001, 0, 0x8000, 0);
        shift(4, 0xC001, 1, 0x0002, 1);
        shift(4, 0x4001, 1, 0x0002, 1);
        shift(5, 0x0003, 0, 0x0001, 1);
        shift(5, 0x0002, 1, 0x8001, 0);
        shift(6, 0x8001, 0, 0x0002, 1);
        shift(6, 0x4001, 1, 0x8003, 0);
        shift(7, 0xA123, 1, 0x123A, 1);
    }

    private static void shiftOrder() {
        see("asked between the shifts", Asm.ran(2, 9, 0x0200 | 3 << 6 | 0x0008 | 0x0010 | 2), 2, 9, 65);
        see("asked between the shifts", Asm.ran(1, 9, 0x0200 | 2 << 6 | 0x0008 | 0x0010 | 3), 1, 9, 66);
        OctalHouse x = Asm.ran(1, 9, 0x0200 | 5 << 6 | 0x0020 | 0x0010 | 5);
        see("E becomes 0 between them", x, 0, 9, 65);
        Check.due("E", x.state(3), 0);
        see("B's lowest bit", Asm.ran(1, 2, 0x0808), 1, 2, 66);
        see("B's lowest bit", Asm.ran(2, 1, 0x0808), 2, 1, 65);
    }

    private static void alterations() {
        see("CLA", Asm.ran(7, 8, 0x0500), 0, 8, 65);
        see("CMB", Asm.ran(7, 8, 0x0E00), 7, 65527, 65);
        see("CCA", Asm.ran(7, 8, 0x0700), 65535, 8, 65);
        see("CMA, INA", Asm.ran(7, 8, 0x0604), 65529, 8, 65);
        OctalHouse x = Asm.ran(32767, 65535, 0x0404);
        see("INA of 32767", x, 32768, 65535, 65);
        Check.due("O", x.state(4), 1);
        Check.due("E", x.state(3), 0);
        OctalHouse y = Asm.ran(32767, 65535, 0x0C04);
        see("INB of 65535", y, 32767, 0, 65);
        Check.due("O", y.state(4), 0);
        Check.due("E", y.state(3), 1);
        Check.due("CME", Asm.ran(0, 0, 0x0480).state(3), 1);
        Check.due("CME twice", Asm.ran(0, 0, 0x0480, 0x0480).state(3), 0);
        Check.due("CCE", Asm.ran(0, 0, 0x04C0).state(3), 1);
        Check.due("CCE, CLE", Asm.ran(0, 0, 0x04C0, 0x0440).state(3), 0);
        Check.due("CLE, then the carry", Asm.ran(65535, 0, 0x0444).state(3), 1);
    }

    private static void asked(String what, int bits, int a, int e, boolean skips) {
        OctalHouse x = Asm.with(e == 0 ? 0x0440 : 0x04C0, 0x0400 | bits);
        x.set(0, a);
        x.run(2);
        Check.due(what + " of " + a + ": P", x.state(2), skips ? 67 : 66);
    }

    private static void asking() {
        int askE = 0x20;
        int sign = 0x10;
        int lowest = 0x08;
        int zero = 0x02;
        int other = 0x01;
        asked("nothing", 0, 0, 0, false);
        asked("nothing, other", other, 5, 0, true);
        asked("E", askE, 5, 0, true);
        asked("E", askE, 5, 1, false);
        asked("E, other", askE | other, 5, 0, false);
        asked("E, other", askE | other, 5, 1, true);
        asked("E before it is changed", askE | 0xC0, 5, 0, true);
        asked("sign", sign, 0x7FFF, 0, true);
        asked("sign", sign, 0x8000, 0, false);
        asked("sign, other", sign | other, 0x8000, 0, true);
        asked("sign, other", sign | other, 0x7FFF, 0, false);
        asked("lowest", lowest, 0xFFFE, 0, true);
        asked("lowest", lowest, 1, 0, false);
        asked("lowest, other", lowest | other, 1, 0, true);
        asked("lowest, other", lowest | other, 2, 0, false);
        asked("R", zero, 0, 0, true);
        asked("R", zero, 1, 0, false);
        asked("R, other", zero | other, 0, 0, false);
        asked("R, other", zero | other, 1, 0, true);
        asked("R after 1 more", zero | 4, 65535, 0, true);
        asked("sign before 1 more", sign | 4, 32767, 0, true);
        asked("lowest before 1 more", lowest | 4, 2, 0, true);
        asked("sign after the other bits", sign | 0x200, 0, 0, false);
        asked("both", sign | lowest, 0x8001, 0, false);
        asked("both", sign | lowest, 0x8000, 0, true);
        asked("both", sign | lowest, 0x0001, 0, true);
        asked("both, other", sign | lowest | other, 0x8001, 0, true);
        asked("both, other", sign | lowest | other, 0x8000, 0, false);
        asked("both, other", sign | lowest | other, 0x0001, 0, false);
        asked("both and R, other", sign | lowest | zero | other, 0x0001, 0, true);
        asked("both and E, other", sign | lowest | askE | other, 0x0001, 1, true);
        asked("both and E, other", sign | lowest | askE | other, 0x0000, 0, false);
    }

    /** A double-word instruction with the word at 100, O set before. */
    private static OctalHouse wide(int instruction, int b, int a, int it) {
        OctalHouse x = Asm.with(Asm.stf(1), instruction, 100);
        x.set(0, a);
        x.set(1, b);
        x.set(100, it);
        x.run(2);
        return x;
    }

    private static void product(int a, int it, int due) {
        OctalHouse x = wide(Asm.MPY, 123, a & 65535, it & 65535);
        see("MPY " + a + " " + it, x, due & 65535, due >>> 16, 67);
        Check.due("O", x.state(4), 0);
    }

    private static void multiply() {
        product(300, -2, -600);
        product(-300, -2, 600);
        product(-32768, -32768, 1 << 30);
        product(-32768, 32767, -32768 * 32767);
        product(32767, 32767, 32767 * 32767);
        product(0, -1, 0);
        OctalHouse x = Asm.with(Asm.MPY, 0x8000 | 100);
        x.set(0, 6);
        x.set(100, 0x8000 | 101);
        x.set(101, 0);
        x.run(1);
        see("MPY INDIRECT, by A", x, 36, 0, 66);
    }

    private static void quotient(int pair, int it, int q, int rest) {
        OctalHouse x = wide(Asm.DIV, pair >>> 16, pair & 65535, it & 65535);
        see("DIV " + pair + " " + it, x, q & 65535, rest & 65535, 67);
        Check.due("O", x.state(4), 0);
    }

    private static void noQuotient(int pair, int it) {
        OctalHouse x = Asm.with(Asm.DIV, 100);
        x.set(0, pair & 65535);
        x.set(1, pair >>> 16);
        x.set(100, it);
        x.run(1);
        see("DIV " + pair + " " + it, x, pair & 65535, pair >>> 16, 66);
        Check.due("O", x.state(4), 1);
    }

    private static void divide() {
        quotient(300, 7, 42, 6);
        quotient(-300, 7, -42, -6);
        quotient(300, -7, -42, 6);
        quotient(-300, -7, 42, -6);
        quotient(32767 * 32767 + 32766, 32767, 32767, 32766);
        quotient(-32768, 1, -32768, 0);
        quotient(32768, -1, -32768, 0);
        noQuotient(300, 0);
        noQuotient(0, 0);
        noQuotient(32768, 1);
        noQuotient(-32769, 1);
        noQuotient(-32768, 65535);
        noQuotient(Integer.MIN_VALUE, 65535);
        noQuotient(Integer.MIN_VALUE, 32767);
    }

    private static void doubleLoads() {
        OctalHouse x = Asm.with(Asm.DLD, 100, Asm.DST, 0x8000 | 102);
        Asm.load(x, 100, 11, 40000, 200);
        x.run(1);
        see("DLD", x, 11, 40000, 66);
        x.run(1);
        see("DST", x, 11, 40000, 68);
        Check.due("DST: the first", x.word(200), 11);
        Check.due("DST: the second", x.word(201), 40000);
        OctalHouse y = Asm.with(Asm.DST, 1);
        Asm.load(y, 0, 5, 6, 7);
        y.run(1);
        see("DST to B and 2", y, 5, 5, 66);
        Check.due("what B was", y.word(2), 6);
        OctalHouse z = Asm.with(Asm.DLD, 1);
        Asm.load(z, 0, 5, 6, 7);
        z.run(1);
        see("DLD from B and 2", z, 6, 7, 66);
        OctalHouse w = Asm.with(Asm.DST, 32767);
        Asm.load(w, 0, 5, 6);
        w.run(1);
        see("DST round to A", w, 6, 6, 66);
        OctalHouse v = Asm.with(Asm.DLD, 4095);
        v.set(4095, 9);
        v.set(1, 6);
        v.run(1);
        see("DLD at the end of MEMORY", v, 9, 0, 66);
    }

    private static void wideShift(int instruction, int pair, int n, int due, int dueO) {
        int p = 66;
        OctalHouse x = Asm.with(0x0400, instruction | n & 15);
        x.set(0, pair & 65535);
        x.set(1, pair >>> 16);
        x.run(2);
        see(Integer.toOctalString(instruction | n & 15), x, due & 65535, due >>> 16, p);
        Check.due("O, from 0", x.state(4), dueO < 0 ? 0 : dueO);
        OctalHouse y = Asm.with(Asm.stf(1), instruction | n & 15);
        y.set(0, pair & 65535);
        y.set(1, pair >>> 16);
        y.run(2);
        see(Integer.toOctalString(instruction | n & 15), y, due & 65535, due >>> 16, p);
        Check.due("O, from 1", y.state(4), dueO < 0 ? 1 : dueO);
    }

    private static void longShifts() {
        wideShift(Asm.ASL, 0x00012345, 4, 0x00123450, 0);
        wideShift(Asm.ASL, 0x40000001, 1, 0x00000002, 1);
        wideShift(Asm.ASL, 0xC0000001, 1, 0x80000002, 0);
        wideShift(Asm.ASL, 0xBFFFFFFF, 1, 0xFFFFFFFE, 1);
        wideShift(Asm.ASL, 0x00008000, 16, 0x00000000, 1);
        wideShift(Asm.ASL, 0x00007FFF, 16, 0x7FFF0000, 0);
        wideShift(Asm.ASL, 0xFFFF8000, 16, 0x80000000, 0);
        wideShift(Asm.ASL, 0xFFFF7FFF, 16, 0xFFFF0000, 1);
        wideShift(Asm.ASR, 0x80000010, 4, 0xF8000001, 0);
        wideShift(Asm.ASR, 0x7FFF1234, 16, 0x00007FFF, 0);
        wideShift(Asm.ASR, 0x80000000, 16, 0xFFFF8000, 0);
        wideShift(Asm.LSL, 0xC0000001, 1, 0x80000002, -1);
        wideShift(Asm.LSL, 0x12345678, 16, 0x56780000, -1);
        wideShift(Asm.LSR, 0x80000010, 4, 0x08000001, -1);
        wideShift(Asm.LSR, 0x87654321, 16, 0x00008765, -1);
        wideShift(Asm.RRL, 0x87654321, 4, 0x76543218, -1);
        wideShift(Asm.RRL, 0x87654321, 16, 0x43218765, -1);
        wideShift(Asm.RRR, 0x87654321, 4, 0x18765432, -1);
        wideShift(Asm.RRR, 0x87654321, 15, 0x86430ECA, -1);
    }

    private static void othersDoNothing() {
        for (int low = 0; low < 4096; low++) {
            int word = 0x8000 | low;
            int kind = word & 0177760;
            boolean shift = kind == Asm.ASL || kind == Asm.ASR || kind == Asm.LSL || kind == Asm.LSR || kind == Asm.RRL || kind == Asm.RRR;
            boolean wide = word == Asm.MPY || word == Asm.DIV || word == Asm.DLD || word == Asm.DST;
            if ((word & 0x0400) == 0 && !shift && !wide) {
                OctalHouse x = Asm.ran(0x1234, 0x8765, word);
                see(Integer.toOctalString(word), x, 0x1234, 0x8765, 65);
                Check.due("O", x.state(4), 0);
            }
        }
    }
}
