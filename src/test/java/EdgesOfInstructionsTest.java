/** 'Terms', row 3: memory, shift and alter instructions, each sentence at its boundary and one step to each side. */
public final class EdgesOfInstructionsTest {
    private static final int CLE = 0x0440;
    private static final int CCE = 0x04C0;

    public static void main(String[] args) {
        kindsOfInstructions();
        placesInAPage();
        logic();
        jumpsToSubroutines();
        jumps();
        increments();
        sums();
        sumsLeaveEAndO();
        compares();
        loadsAndStores();
        skipsAtTheEnds();
        shiftLeftKeepsTheSign();
        shiftRightKeepsTheSign();
        shiftsRound();
        shiftLeftDropsTheSign();
        shiftsThroughE();
        shiftRoundByFour();
        shiftsNeedTheirBits();
        shiftOrder();
        lowestBitIsAsked();
        alterations();
        alterationsOfE();
        oneMore();
        asksBeforeOneMore();
        anyThatIsAsked();
        Check.end("EdgesOfInstructionsTest");
    }

    private static OctalHouse with(int a, int b, int... program) {
        OctalHouse x = Asm.with(program);
        x.set(0, a);
        x.set(1, b);
        return x;
    }

    // "Bits 14 .. 12 not 0"; "Bits 15 .. 12 are 0"; "Bits 15 .. 12 are 8"
    private static void kindsOfInstructions() {
        Edge.step("0: a shift of A that does nothing", with(5, 6, 0x0000), "P=65");
        Edge.step("0x0FFF: the last that alters", with(5, 6, 0x0FFF), "P=66 B=0 E=1");
        OctalHouse first = with(5, 6, 0x1000 | 100);
        first.set(100, 4);
        Edge.step("0x1000: the first that names a word, AND", first, "P=65 A=4");
        Edge.step("0x7FFF: STB in the PAGE", with(5, 6, 0x7FFF), "P=65 [1023]=6");
        Edge.step("0x8000: nothing", with(5, 6, 0x8000), "P=65");
        Edge.step("0x8FFF: CLC 63 with C", with(5, 6, 0x8FFF), "P=65 held=1");
        OctalHouse indirect = with(5, 6, 0x9000 | 100);
        indirect.set(100, 1);
        Edge.step("0x9000: AND, INDIRECT", indirect, "P=65 A=4");
        OctalHouse last = with(5, 6, 0xFFFF);
        last.set(1023, 500);
        Edge.step("0xFFFF: STB, INDIRECT", last, "P=65 [500]=6");
    }

    // "bit 10: 1 an address in the PAGE, 0 in page 0, bits 9 .. 0 the place in it: m"
    private static void placesInAPage() {
        for (int place : new int[] {2, 3, 511, 512, 1022, 1023}) {
            for (int page = 0; page <= 3; page++) {
                OctalHouse x = new OctalHouse();
                int at = 1024 * page + 700;
                x.set(at, Asm.mem(Asm.STA, place));
                x.set(at + 1, Asm.mem(Asm.STA, place) | Asm.HERE);
                x.set(0, 40000);
                x.go(at);
                Edge.step("page 0, " + place, x, "P=" + (at + 1) + " [" + place + "]=40000");
                x.set(place, 1);
                Edge.step("page " + page + ", " + place, x, "P=" + (at + 2) + " [" + (1024 * page + place) + "]=40000");
            }
        }
        OctalHouse x = new OctalHouse();
        x.set(1100, Asm.mem(Asm.STA, 0) | Asm.HERE);
        x.set(1101, Asm.mem(Asm.STA, 1) | Asm.HERE);
        x.set(0, 9);
        x.go(1100);
        Edge.step("place 0 of page 1 is not A", x, "P=1101 [1024]=9");
        Edge.step("place 1 of page 1 is not B", x, "P=1102 [1025]=9");
    }

    // "2 A becomes A and m's word; .. 4 A becomes A xor it; .. 6 A becomes A or it"
    private static void logic() {
        int[][] cases = {
            {0, 0, 0, 0, 0}, {65535, 0, 0, 65535, 65535}, {0, 65535, 0, 65535, 65535}, {65535, 65535, 65535, 0, 65535},
            {0x8000, 0x7FFF, 0, 0xFFFF, 0xFFFF}, {0x8001, 0x8000, 0x8000, 0x0001, 0x8001}, {0xAAAA, 0x5555, 0, 0xFFFF, 0xFFFF},
        };
        for (int[] one : cases) {
            int[] ops = {Asm.AND, Asm.XOR, Asm.IOR};
            for (int i = 0; i < 3; i++) {
                OctalHouse x = with(one[0], 77, Asm.mem(ops[i], 100));
                x.set(100, one[1]);
                Edge.step("op " + ops[i] + " of " + one[0] + ", " + one[1], x, "P=65 A=" + one[2 + i]);
            }
        }
    }

    // "3 JSB: the word at m becomes P, P is m and 1 (INDIRECT: HELD OFF)"
    private static void jumpsToSubroutines() {
        Edge.step("JSB to A", with(5, 6, Asm.mem(Asm.JSB, 0)), "P=1 A=65");
        Edge.step("JSB to B", with(5, 6, Asm.mem(Asm.JSB, 1)), "P=2 B=65");
        Edge.step("JSB to 2", with(5, 6, Asm.mem(Asm.JSB, 2)), "P=3 [2]=65");
        Edge.step("JSB to 1023", with(5, 6, Asm.mem(Asm.JSB, 1023)), "P=1024 [1023]=65");
        Edge.step("JSB to itself", with(5, 6, Asm.mem(Asm.JSB, 64)), "P=65 [64]=65");
        int[][] cases = {{4094, 4095}, {4095, 4096}, {4096, 4097}, {32766, 32767}, {32767, 0}, {0, 1}};
        for (int[] one : cases) {
            OctalHouse x = with(5, 6, Asm.mem(Asm.JSB, 100) | Asm.INDIRECT);
            x.set(100, one[0]);
            String put = one[0] == 0 ? " A=65" : one[0] <= 4095 ? " [" + one[0] + "]=65" : "";
            Edge.step("JSB INDIRECT to " + one[0], x, "held=1 P=" + one[1] + put);
        }
        OctalHouse far = new OctalHouse();
        far.set(4095, Asm.mem(Asm.JSB, 300));
        far.go(4095);
        Edge.step("JSB from 4095", far, "P=301 [300]=4096");
        for (int p : new int[] {32766, 32767, 0}) {
            OctalHouse served = Edge.asking(8);
            served.set(8, Asm.mem(Asm.JSB, 300));
            served.go(p);
            Edge.step("JSB by an interrupt at " + p, served, "P=301 [300]=" + p + " served=1 latest=8 8.asks=0");
        }
    }

    // "5 JMP: P is m (INDIRECT: HELD OFF)"
    private static void jumps() {
        for (int m : new int[] {0, 1, 64, 1022, 1023}) {
            Edge.step("JMP to " + m, with(5, 6, Asm.mem(Asm.JMP, m)), "P=" + m);
        }
        for (int m : new int[] {0, 1, 64, 4095, 4096, 32766, 32767}) {
            OctalHouse x = with(5, 6, Asm.mem(Asm.JMP, 100) | Asm.INDIRECT);
            x.set(100, m);
            Edge.step("JMP INDIRECT to " + m, x, "held=1 P=" + m);
        }
    }

    // "7 ISZ: it is 1 more; skip, if it is 0 then"
    private static void increments() {
        int[][] cases = {{0, 1, 65}, {1, 2, 65}, {32767, 32768, 65}, {65534, 65535, 65}, {65535, 0, 66}};
        for (int[] one : cases) {
            OctalHouse x = with(5, 6, Asm.mem(Asm.ISZ, 100));
            x.set(100, one[0]);
            Edge.step("ISZ of " + one[0], x, "P=" + one[2] + " [100]=" + one[1]);
            Edge.step("ISZ of A, " + one[0], with(one[0], 6, Asm.mem(Asm.ISZ, 0)), "P=" + one[2] + " A=" + one[1]);
            Edge.step("ISZ of B, " + one[0], with(5, one[0], Asm.mem(Asm.ISZ, 1)), "P=" + one[2] + " B=" + one[1]);
        }
        OctalHouse above = with(5, 6, Asm.mem(Asm.ISZ, 100) | Asm.INDIRECT);
        above.set(100, 4096);
        Edge.step("ISZ above MEMORY makes 1, which is lost", above, "P=65");
    }

    // "8, 9 A, B becomes its sum with it (E becomes 1 by a carry out; O by a sum that is none with sign)"
    private static void sums() {
        int[][] cases = { // a word, the other, the sum, E, O
            {0, 0, 0, 0, 0}, {65534, 1, 65535, 0, 0}, {65535, 1, 0, 1, 0}, {65535, 2, 1, 1, 0}, {65535, 65535, 65534, 1, 0},
            {32766, 1, 32767, 0, 0}, {32767, 0, 32767, 0, 0}, {32767, 1, 32768, 0, 1}, {32767, 2, 32769, 0, 1}, {32767, 32767, 65534, 0, 1},
            {16383, 16384, 32767, 0, 0}, {16384, 16384, 32768, 0, 1},
            {32769, 65535, 32768, 1, 0}, {32768, 0, 32768, 0, 0}, {32768, 65535, 32767, 1, 1}, {32768, 65534, 32766, 1, 1}, {32768, 32768, 0, 1, 1},
            {49152, 49152, 32768, 1, 0}, {49152, 49151, 32767, 1, 1},
            {32767, 32768, 65535, 0, 0}, {32767, 32769, 0, 1, 0}, {32767, 65535, 32766, 1, 0}, {32768, 1, 32769, 0, 0}, {32768, 32767, 65535, 0, 0},
        };
        for (int[] one : cases) {
            sum(one[0], one[1], one);
            sum(one[1], one[0], one);
        }
        Edge.step("ADA of A", with(32768, 6, Asm.mem(Asm.ADA, 0)), "P=65 A=0 E=1 O=1");
        Edge.step("ADB of B", with(5, 65535, Asm.mem(Asm.ADB, 1)), "P=65 B=65534 E=1");
    }

    private static void sum(int r, int it, int[] due) {
        String bits = "=" + due[2] + " E=" + due[3] + " O=" + due[4];
        OctalHouse a = with(r, 99, Asm.mem(Asm.ADA, 100));
        a.set(100, it);
        Edge.step("ADA " + r + " and " + it, a, "P=65 A" + bits);
        OctalHouse b = with(99, r, Asm.mem(Asm.ADB, 100));
        b.set(100, it);
        Edge.step("ADB " + r + " and " + it, b, "P=65 B" + bits);
    }

    // "E becomes 1", "O": a sum without carry, or with a sign, leaves them.
    private static void sumsLeaveEAndO() {
        OctalHouse x = with(1, 1, CCE, Asm.stf(1), Asm.mem(Asm.ADA, 100), Asm.mem(Asm.ADB, 100));
        x.set(100, 1);
        x.run(2);
        Edge.step("ADA without either", x, "P=67 held=0 A=2");
        Edge.step("ADB without either", x, "P=68 B=2");
    }

    // "10, 11 skip, if A, B is not it"
    private static void compares() {
        int[][] cases = {{0, 0}, {0, 1}, {1, 0}, {65535, 65535}, {65535, 65534}, {65534, 65535}, {65535, 0}, {0, 65535}, {32767, 32768}, {32768, 32768}};
        for (int[] one : cases) {
            int p = one[0] == one[1] ? 65 : 66;
            OctalHouse a = with(one[0], one[1], Asm.mem(Asm.CPA, 100));
            a.set(100, one[1]);
            Edge.step("CPA " + one[0] + " and " + one[1], a, "P=" + p);
            OctalHouse b = with(one[1], one[0], Asm.mem(Asm.CPB, 100));
            b.set(100, one[1]);
            Edge.step("CPB " + one[0] + " and " + one[1], b, "P=" + p);
        }
        Edge.step("CPA of A", with(5, 6, Asm.mem(Asm.CPA, 0)), "P=65");
        Edge.step("CPA of B", with(5, 6, Asm.mem(Asm.CPA, 1)), "P=66");
    }

    // "12, 13 A, B become it; 14, 15 it becomes A, B"
    private static void loadsAndStores() {
        for (int v : new int[] {0, 1, 32767, 32768, 65534, 65535}) {
            for (int m : new int[] {2, 1022, 1023}) {
                OctalHouse x = with(11, 12, Asm.mem(Asm.LDA, m), Asm.mem(Asm.LDB, m));
                x.set(m, v);
                Edge.step("LDA " + m, x, "P=65 A=" + v);
                Edge.step("LDB " + m, x, "P=66 B=" + v);
                Edge.step("STA " + m, with(v, 12, Asm.mem(Asm.STA, m)), "P=65 [" + m + "]=" + v);
                Edge.step("STB " + m, with(11, v, Asm.mem(Asm.STB, m)), "P=65 [" + m + "]=" + v);
            }
        }
        Edge.step("LDA of A", with(5, 6, Asm.mem(Asm.LDA, 0)), "P=65");
        Edge.step("STA to A", with(5, 6, Asm.mem(Asm.STA, 0)), "P=65");
        Edge.step("STB to B", with(5, 6, Asm.mem(Asm.STB, 1)), "P=65");
    }

    // "To skip: P is 1 more (15 bits)."
    private static void skipsAtTheEnds() {
        for (int p : new int[] {4093, 4094, 4095}) {
            OctalHouse x = new OctalHouse();
            x.set(p, 0x0401);
            x.go(p);
            Edge.step("a skip at " + p, x, "P=" + (p + 2));
        }
        int[] skips = {0x0401, 0x0008, 0x0402, Asm.mem(Asm.CPA, 100), Asm.mem(Asm.CPB, 100), Asm.io(Asm.SFC, 9), Asm.io(Asm.SFS, 0)};
        for (int skip : skips) {
            for (int p : new int[] {32766, 32767}) {
                OctalHouse x = Edge.asking(8);
                x.set(8, skip);
                x.set(100, 1);
                x.go(p);
                Edge.step("the word " + skip + " at " + p, x, "P=" + (p + 1 & 32767) + " served=1 latest=8 8.asks=0");
            }
        }
        OctalHouse x = Edge.asking(8);
        x.set(8, Asm.mem(Asm.ISZ, 100));
        x.set(100, 65535);
        x.go(32767);
        Edge.step("ISZ at 32767", x, "P=0 [100]=0 served=1 latest=8 8.asks=0");
    }

    /** One SHIFT in each place where it may stand, of A and of B; each row is a word, E, the word then, E then. */
    private static void shift(int kind, int[][] cases) {
        for (int[] one : cases) {
            int setE = one[1] == 0 ? CLE : CCE;
            String what = "SHIFT " + kind + " of " + one[0] + ", E " + one[1];
            for (int word : new int[] {0x0200 | kind << 6, 0x0010 | kind}) {
                OctalHouse a = with(one[0], 77, setE, word);
                a.run(1);
                Edge.step(what + ", A", a, "P=66 A=" + one[2] + " E=" + one[3]);
                OctalHouse b = with(77, one[0], setE, word | Asm.ON_B);
                b.run(1);
                Edge.step(what + ", B", b, "P=66 B=" + one[2] + " E=" + one[3]);
            }
        }
    }

    // "0 left by one, but the sign stays (0 comes in)"
    private static void shiftLeftKeepsTheSign() {
        shift(0, new int[][] {
            {0, 1, 0, 1}, {1, 0, 2, 0}, {0x3FFF, 0, 0x7FFE, 0}, {0x4000, 0, 0, 0}, {0x4001, 1, 2, 1}, {0x7FFF, 0, 0x7FFE, 0},
            {0x8000, 0, 0x8000, 0}, {0x8001, 1, 0x8002, 1}, {0xBFFF, 0, 0xFFFE, 0}, {0xC000, 0, 0x8000, 0}, {0xFFFF, 0, 0xFFFE, 0},
        });
    }

    // "1 right by one, the sign stays and comes in"
    private static void shiftRightKeepsTheSign() {
        shift(1, new int[][] {
            {0, 1, 0, 1}, {1, 0, 0, 0}, {2, 0, 1, 0}, {3, 1, 1, 1}, {0x4000, 0, 0x2000, 0}, {0x7FFF, 0, 0x3FFF, 0},
            {0x8000, 0, 0xC000, 0}, {0x8001, 1, 0xC000, 1}, {0xC000, 0, 0xE000, 0}, {0xFFFE, 0, 0xFFFF, 0}, {0xFFFF, 0, 0xFFFF, 0},
        });
    }

    // "2 round to the left by one; 3 to the right"
    private static void shiftsRound() {
        shift(2, new int[][] {
            {0, 1, 0, 1}, {1, 0, 2, 0}, {0x4000, 0, 0x8000, 0}, {0x7FFF, 1, 0xFFFE, 1}, {0x8000, 0, 1, 0}, {0x8001, 0, 3, 0}, {0xFFFF, 0, 0xFFFF, 0},
        });
        shift(3, new int[][] {
            {0, 1, 0, 1}, {1, 0, 0x8000, 0}, {2, 0, 1, 0}, {0x8000, 1, 0x4000, 1}, {0x8001, 0, 0xC000, 0}, {0xFFFE, 0, 0x7FFF, 0}, {0xFFFF, 0, 0xFFFF, 0},
        });
    }

    // "4 left by one, then the sign is 0"
    private static void shiftLeftDropsTheSign() {
        shift(4, new int[][] {
            {0, 1, 0, 1}, {1, 0, 2, 0}, {0x3FFF, 0, 0x7FFE, 0}, {0x4000, 1, 0, 1}, {0x7FFF, 0, 0x7FFE, 0}, {0x8000, 0, 0, 0}, {0xBFFF, 0, 0x7FFE, 0}, {0xFFFF, 0, 0x7FFE, 0},
        });
    }

    // "5 round to the right through E (17 bits: E comes in at the sign); 6 to the left through E"
    private static void shiftsThroughE() {
        shift(5, new int[][] {
            {0, 0, 0, 0}, {0, 1, 0x8000, 0}, {1, 0, 0, 1}, {1, 1, 0x8000, 1}, {2, 0, 1, 0}, {0x8000, 0, 0x4000, 0}, {0xFFFF, 0, 0x7FFF, 1}, {0xFFFF, 1, 0xFFFF, 1},
        });
        shift(6, new int[][] {
            {0, 0, 0, 0}, {0, 1, 1, 0}, {0x8000, 0, 0, 1}, {0x8000, 1, 1, 1}, {0x4000, 1, 0x8001, 0}, {0x7FFF, 0, 0xFFFE, 0}, {0xFFFF, 0, 0xFFFE, 1}, {0xFFFF, 1, 0xFFFF, 1},
        });
        int v = 0xB5C3;
        OctalHouse x = with(v, 0, CCE, 0x0210 | 5 << 6 | 5);
        x.run(1);
        for (int i = 0; i < 9; i++) {
            x.go(65);
            x.run(1);
        }
        Check.due("18 steps of 17 are one: A", x.state(0), 0xDAE1);
        Check.due("18 steps of 17 are one: E", x.state(3), 1);
    }

    // "7 round to the left by four"
    private static void shiftRoundByFour() {
        shift(7, new int[][] {
            {0, 1, 0, 1}, {1, 0, 0x10, 0}, {0x0800, 0, 0x8000, 0}, {0x0FFF, 0, 0xFFF0, 0}, {0x1000, 0, 1, 0}, {0x8000, 1, 8, 1}, {0xF000, 0, 0xF, 0}, {0xFFFF, 0, 0xFFFF, 0},
        });
    }

    // "if bit 9: a SHIFT by bits 8 .. 6"; "if bit 4: a SHIFT by bits 2 .. 0"
    private static void shiftsNeedTheirBits() {
        for (int kind = 0; kind < 8; kind++) {
            OctalHouse x = with(0x8421, 0x1248, CCE, kind << 6 | kind, kind << 6 | kind | Asm.ON_B);
            x.run(1);
            Edge.step("no SHIFT " + kind + " of A", x, "P=66");
            Edge.step("no SHIFT " + kind + " of B", x, "P=67");
        }
    }

    // "if bit 9: a SHIFT ..; if bit 5: E becomes 0; if bit 3 ..: skip; if bit 4: a SHIFT": in this order.
    private static void shiftOrder() {
        Edge.step("E is 0 between them", with(3, 9, 0x0200 | 5 << 6 | 0x20 | 0x10 | 5), "P=65 A=0 E=1");
        Edge.step("asked behind the first: it is 1", with(2, 9, 0x0200 | 1 << 6 | 0x08 | 0x10 | 1), "P=65 A=0");
        Edge.step("asked behind the first: it is 0", with(5, 9, 0x0200 | 1 << 6 | 0x08 | 0x10 | 1), "P=66 A=1");
        OctalHouse x = with(1, 9, CCE, 0x0020);
        x.run(1);
        Edge.step("E alone", x, "P=66 E=0");
        OctalHouse y = with(1, 9, CCE, 0x0020 | 0x0010 | 5);
        y.run(1);
        Edge.step("E is 0, then it takes the lowest bit", y, "P=66 A=0");
    }

    // "if bit 3 and R's lowest bit is 0: skip"
    private static void lowestBitIsAsked() {
        for (int v : new int[] {0, 1, 2, 3, 0x7FFF, 0x8000, 0xFFFE, 0xFFFF}) {
            int p = v % 2 == 0 ? 66 : 65;
            Edge.step("A is " + v, with(v, 1 - v % 2, 0x0008), "P=" + p);
            Edge.step("B is " + v, with(1 - v % 2, v, 0x0808), "P=" + p);
            Edge.step("it is not asked, " + v, with(v, v, 0x0000), "P=65");
        }
    }

    // "bits 9, 8: 1 R becomes 0, 2 all bits other, 3 all ones"
    private static void alterations() {
        for (int v : new int[] {0, 1, 0x7FFF, 0x8000, 0xFFFE, 0xFFFF}) {
            int[] due = {v, 0, 0xFFFF - v, 0xFFFF};
            for (int kind = 0; kind < 4; kind++) {
                Edge.step(kind + " of A, " + v, with(v, 77, 0x0400 | kind << 8), "P=65 A=" + due[kind]);
                Edge.step(kind + " of B, " + v, with(77, v, 0x0C00 | kind << 8), "P=65 B=" + due[kind]);
            }
        }
    }

    // "bits 7, 6: 1 E becomes 0, 2 the other, 3 1" (behind "bit 5: ask E")
    private static void alterationsOfE() {
        int[][] due = {{0, 0, 1, 1}, {1, 0, 0, 1}};
        for (int e = 0; e <= 1; e++) {
            for (int kind = 0; kind < 4; kind++) {
                OctalHouse x = with(5, 6, e == 0 ? CLE : CCE, 0x0400 | kind << 6, e == 0 ? CLE : CCE, 0x0420 | kind << 6);
                x.run(1);
                Edge.step(kind + " of E, " + e, x, "P=66 E=" + due[e][kind]);
                x.run(1);
                Edge.step(kind + " of E, " + e + ", asked before", x, "P=" + (e == 0 ? 69 : 68) + " E=" + due[e][kind]);
            }
        }
    }

    // "bit 2: R is 1 more (E becomes 1 by a carry out, O if it was 32,767)"
    private static void oneMore() {
        int[][] cases = {{0, 1, 0, 0}, {32766, 32767, 0, 0}, {32767, 32768, 0, 1}, {32768, 32769, 0, 0}, {65534, 65535, 0, 0}, {65535, 0, 1, 0}};
        for (int[] one : cases) {
            String bits = "=" + one[1] + " E=" + one[2] + " O=" + one[3];
            Edge.step("A is " + one[0], with(one[0], 77, 0x0404), "P=65 A" + bits);
            Edge.step("B is " + one[0], with(77, one[0], 0x0C04), "P=65 B" + bits);
            OctalHouse x = with(one[0], 77, CCE, Asm.stf(1), 0x0404);
            x.run(2);
            Edge.step("E and O stay, " + one[0], x, "P=67 held=0 A=" + one[1]);
        }
        Edge.step("0, all ones, 1 more", with(5, 77, 0x0704), "P=65 A=0 E=1");
        Edge.step("all bits other, 1 more: of 0", with(0, 77, 0x0604), "P=65 E=1");
        Edge.step("all bits other, 1 more: of 1", with(1, 77, 0x0604), "P=65 A=65535");
        Edge.step("all bits other, 1 more: of 32768", with(32768, 77, 0x0604), "P=65 O=1");
        Edge.step("E becomes 0, then the carry", with(65535, 77, 0x0444), "P=65 A=0 E=1");
    }

    // "bit 4: ask the sign; bit 3: ask the lowest bit; bit 2: R is 1 more ..; bit 1: ask R"
    private static void asksBeforeOneMore() {
        Edge.step("the sign of 32767, before it is 32768", with(32767, 0, 0x0414), "P=66 A=32768 O=1");
        Edge.step("the sign of 65535, before it is 0", with(65535, 0, 0x0414), "P=65 A=0 E=1");
        Edge.step("the lowest bit of 0, before it is 1", with(0, 0, 0x040C), "P=66 A=1");
        Edge.step("the lowest bit of 1, before it is 2", with(1, 0, 0x040C), "P=65 A=2");
        Edge.step("R of 65535, when it is 0", with(65535, 0, 0x0406), "P=66 A=0 E=1");
        Edge.step("R of 0, when it is 1", with(0, 0, 0x0406), "P=65 A=1");
        Edge.step("R of 65534, when it is 65535", with(65534, 0, 0x0406), "P=65 A=65535");
        Edge.step("the sign behind all bits other", with(0, 0, 0x0610), "P=65 A=65535");
        Edge.step("the lowest bit behind 0", with(1, 0, 0x0508), "P=66 A=0");
        Edge.step("E before it becomes 1", with(0, 0, 0x04E0), "P=66 E=1");
    }

    // "Bit 0 is 0: skip, if any that is asked is 0. Bit 0 is 1: skip, if nothing is asked; or any that is asked is not 0,
    // but if both sign and lowest bit are asked these count only together (both 1)."
    private static void anyThatIsAsked() {
        int[] words = {0x0000, 0x0001, 0x0002, 0x7FFE, 0x7FFF, 0x8000, 0x8001, 0xFFFE, 0xFFFF};
        for (int v : words) {
            for (int e = 0; e <= 1; e++) {
                for (int asks = 0; asks < 16; asks++) {
                    int bits = (asks & 1) << 1 | (asks & 2) << 2 | (asks & 4) << 2 | (asks & 8) << 2;
                    int setE = e == 0 ? CLE : CCE;
                    OctalHouse plain = with(v, 77, setE, 0x0400 | bits);
                    plain.run(2);
                    Check.due("bit 0 is 0, bits " + bits + " of " + v + ", E " + e, plain.state(2), skipsBy0(bits, v, e) ? 67 : 66);
                    OctalHouse other = with(77, v, setE, 0x0C01 | bits);
                    other.run(2);
                    Check.due("bit 0 is 1, bits " + bits + " of " + v + ", E " + e, other.state(2), skipsBy1(bits, v, e) ? 67 : 66);
                }
            }
        }
    }

    private static boolean skipsBy0(int bits, int v, int e) {
        if ((bits & 0x20) != 0 && e == 0) {
            return true;
        }
        if ((bits & 0x10) != 0 && v < 32768) {
            return true;
        }
        if ((bits & 0x08) != 0 && v % 2 == 0) {
            return true;
        }
        return (bits & 0x02) != 0 && v == 0;
    }

    private static boolean skipsBy1(int bits, int v, int e) {
        if (bits == 0) {
            return true;
        }
        if ((bits & 0x20) != 0 && e == 1 || (bits & 0x02) != 0 && v != 0) {
            return true;
        }
        switch (bits & 0x18) {
            case 0x18: return v > 32768 && v % 2 == 1;
            case 0x10: return v >= 32768;
            case 0x08: return v % 2 == 1;
            default: return false;
        }
    }
}
