/** 'Terms', row 3: double words and long shifts, each sentence at its boundary and one step to each side. */
public final class EdgesOfDoubleWordsTest {
    private static final int[] SHIFTS = {Asm.ASL, Asm.ASR, Asm.LSL, Asm.LSR, Asm.RRL, Asm.RRR};

    public static void main(String[] args) {
        products();
        productsOfAAndB();
        quotients();
        noQuotients();
        quotientsByAAndB();
        doubleLoads();
        doubleLoadsOfAAndB();
        doubleStores();
        doubleStoresToAAndB();
        addressesBehind();
        longShiftsBy1To16();
        arithmeticLeft();
        arithmeticRight();
        shiftsWithoutSign();
        shiftsRound();
        codesOfShifts();
        codesOfDoubleWords();
        Check.end("EdgesOfDoubleWordsTest");
    }

    /** O is set before, or not; then the instruction, with its address behind it, stands at 65. */
    private static OctalHouse with(int o, int b, int a, int instruction, int address) {
        OctalHouse x = Asm.with(o == 0 ? Asm.clf(1) : Asm.stf(1), instruction, address);
        x.set(0, a & 65535);
        x.set(1, b & 65535);
        x.run(1);
        return x;
    }

    private static String pair(int v) {
        return " A=" + (v & 65535) + " B=" + (v >>> 16);
    }

    // "B and A (B the higher one) become A times it (with signs), O 0"
    private static void products() {
        int[] words = {0, 1, 2, 255, 256, 32766, 32767, -32768, -32767, -2, -1};
        for (int a : words) {
            for (int it : words) {
                for (int o = 0; o <= 1; o++) {
                    OctalHouse x = with(o, 999, a, Asm.MPY, 500);
                    x.set(500, it);
                    Edge.step("MPY " + a + " and " + it, x, "P=67 held=0 O=0" + pair(a * it));
                }
            }
        }
        OctalHouse x = with(1, 999, -32768, Asm.MPY, 500);
        x.set(500, -32768);
        Edge.step("the largest: 1,073,741,824", x, "P=67 held=0 O=0 A=0 B=16384");
        OctalHouse y = with(1, 999, -32768, Asm.MPY, 500);
        y.set(500, 32767);
        Edge.step("the smallest: -1,073,709,056", y, "P=67 held=0 O=0 A=32768 B=49152");
    }

    // "A times it", where it is A or B itself.
    private static void productsOfAAndB() {
        Edge.step("A times A", with(1, 7, 300, Asm.MPY, 0), "P=67 held=0 O=0" + pair(90000));
        Edge.step("A times B", with(1, -7, 300, Asm.MPY, 1), "P=67 held=0 O=0" + pair(-2100));
        Edge.step("A times a word above MEMORY", with(1, -7, 300, Asm.MPY, 4096), "P=67 held=0 O=0" + pair(0));
    }

    private static OctalHouse dividing(int o, int v, int it) {
        OctalHouse x = with(o, v >>> 16, v, Asm.DIV, 500);
        x.set(500, it);
        return x;
    }

    // "B and A by it: A the quotient towards 0, B the rest, O 0"
    private static void quotients() {
        int[][] cases = { // the dividend, by, quotient, rest
            {0, 1, 0, 0}, {0, -1, 0, 0}, {1, 2, 0, 1}, {-1, 2, 0, -1}, {1, -2, 0, 1}, {-1, -2, 0, -1},
            {7, 2, 3, 1}, {-7, 2, -3, -1}, {7, -2, -3, 1}, {-7, -2, 3, -1}, {6, 2, 3, 0}, {8, 3, 2, 2}, {9, 3, 3, 0},
            {32766, 1, 32766, 0}, {32767, 1, 32767, 0}, {-32767, 1, -32767, 0}, {-32768, 1, -32768, 0},
            {32767, -1, -32767, 0}, {32768, -1, -32768, 0}, {-32767, -1, 32767, 0},
            {65534, 2, 32767, 0}, {65535, 2, 32767, 1}, {-65536, 2, -32768, 0}, {-65537, 2, -32768, -1}, {-65535, 2, -32767, -1},
            {65536, -2, -32768, 0}, {65537, -2, -32768, 1}, {-65535, -2, 32767, -1},
            {1073709055, 32767, 32767, 32766}, {-1073741822, 32767, -32768, -32766}, {1073741824, -32768, -32768, 0},
            {1073774591, -32768, -32768, 32767}, {-1073741823, -32768, 32767, -32767}, {-1073709056, -32768, 32767, 0},
        };
        for (int[] one : cases) {
            for (int o = 0; o <= 1; o++) {
                Edge.step("DIV " + one[0] + " by " + one[1], dividing(o, one[0], one[1]),
                    "P=67 held=0 O=0 A=" + (one[2] & 65535) + " B=" + (one[3] & 65535));
            }
        }
    }

    // "if it is 0, or the quotient is not -32,768 .. 32,767: O 1, nothing else"
    private static void noQuotients() {
        int[][] cases = {
            {0, 0}, {1, 0}, {-1, 0}, {Edge.MIN, 0}, {Edge.MAX, 0},
            {32768, 1}, {32769, 1}, {-32769, 1}, {-32770, 1}, {-32768, -1}, {-32769, -1}, {32769, -1}, {32770, -1},
            {65536, 2}, {-65538, 2}, {65538, -2}, {-65536, -2}, {1073709056, 32767}, {-1073741823, 32767}, {-1073774592, -32768}, {1073774592, -32768}, {-1073741824, -32768},
            {Edge.MIN, 1}, {Edge.MIN, -1}, {Edge.MIN, 32767}, {Edge.MIN, -32768}, {Edge.MAX, 1}, {Edge.MAX, -1}, {Edge.MAX, 32767}, {Edge.MAX, -32768},
        };
        for (int[] one : cases) {
            for (int o = 0; o <= 1; o++) {
                Edge.step("DIV " + one[0] + " by " + one[1], dividing(o, one[0], one[1]), "P=67 held=0 O=1");
            }
        }
        Edge.step("by a word above MEMORY, 0", with(0, 0, 5, Asm.DIV, 4096), "P=67 held=0 O=1");
    }

    // "by it", where it is A or B itself.
    private static void quotientsByAAndB() {
        Edge.step("by A", with(1, 0, 300, Asm.DIV, 0), "P=67 held=0 O=0 A=1 B=0");
        Edge.step("by B", with(1, 3, 7, Asm.DIV, 1), "P=67 held=0 O=1");
        Edge.step("by B, -1", with(1, -1, -5, Asm.DIV, 1), "P=67 held=0 O=0 A=5 B=0");
        Edge.step("by B, 0", with(0, 0, 7, Asm.DIV, 1), "P=67 held=0 O=1");
    }

    // "A and B become the words at m and m and 1" (Terms: addresses have 15 bits, above 4095 a word is 0)
    private static void doubleLoads() {
        int[][] cases = {{2, 12, 13}, {1023, 21, 22}, {4093, 31, 32}, {4094, 32, 33}, {4095, 33, 0}, {4096, 0, 0}, {32766, 0, 0}};
        for (int[] one : cases) {
            OctalHouse x = with(1, 6, 5, Asm.DLD, one[0]);
            Asm.load(x, 2, 12, 13);
            Asm.load(x, 1023, 21, 22);
            Asm.load(x, 4093, 31, 32, 33);
            Edge.step("DLD " + one[0], x, "P=67 held=0 A=" + one[1] + " B=" + one[2]);
        }
    }

    // "A and B become the words at m and m and 1", where these are A or B (both are read first)
    private static void doubleLoadsOfAAndB() {
        OctalHouse x = with(1, 6, 5, Asm.DLD, 0);
        Edge.step("DLD 0", x, "P=67 held=0");
        OctalHouse y = with(1, 6, 5, Asm.DLD, 1);
        y.set(2, 7);
        Edge.step("DLD 1", y, "P=67 held=0 A=6 B=7");
        OctalHouse z = with(1, 6, 5, Asm.DLD, 32767);
        Edge.step("DLD 32767: m and 1 is 0", z, "P=67 held=0 A=0 B=5");
    }

    // "these become A and B"
    private static void doubleStores() {
        int[][] cases = {{2, 2}, {1023, 2}, {4093, 2}, {4094, 2}, {4095, 1}, {4096, 0}, {32766, 0}};
        for (int[] one : cases) {
            OctalHouse x = with(1, 40006, 40005, Asm.DST, one[0]);
            String first = one[1] >= 1 ? " [" + one[0] + "]=40005" : "";
            String second = one[1] >= 2 ? " [" + (one[0] + 1) + "]=40006" : "";
            Edge.step("DST " + one[0], x, "P=67 held=0" + first + second);
        }
    }

    // "these become A and B", where these are A or B (both are read first)
    private static void doubleStoresToAAndB() {
        Edge.step("DST 0", with(1, 6, 5, Asm.DST, 0), "P=67 held=0");
        Edge.step("DST 1", with(1, 6, 5, Asm.DST, 1), "P=67 held=0 B=5 [2]=6");
        Edge.step("DST 32767: m and 1 is 0", with(1, 6, 5, Asm.DST, 32767), "P=67 held=0 A=6");
    }

    // "then a word at P: INDIRECT or not, m"
    private static void addressesBehind() {
        for (int m : new int[] {2, 1023, 1024, 4094}) {
            OctalHouse x = with(1, 6, 5, Asm.DLD, 0x8000 | 500);
            x.set(500, m);
            Asm.load(x, m, 71, 72);
            Edge.step("INDIRECT to " + m, x, "P=67 held=0 A=71 B=72");
        }
        OctalHouse far = new OctalHouse();
        Asm.load(far, 2048, Asm.DLD, 1030);
        Asm.load(far, 1030, 71, 72);
        far.go(2048);
        Edge.step("15 bits, no PAGE", far, "P=2050 A=71 B=72");
    }

    /** A long shift of v by n, with O 0 and 1 before; dueO 2: it stays. */
    private static void shift(int instruction, int v, int n, int due, int dueO) {
        for (int o = 0; o <= 1; o++) {
            OctalHouse x = with(o, v >>> 16, v, instruction | n & 15, 500);
            Edge.step(Integer.toOctalString(instruction | n & 15) + " of " + Integer.toHexString(v), x,
                "P=66 held=0" + pair(due) + " O=" + (dueO == 2 ? o : dueO));
        }
    }

    // "each with n in its lowest four bits (0: 16), of B and A as 32 bits"
    private static void longShiftsBy1To16() {
        for (int n = 1; n <= 16; n++) {
            shift(Asm.ASL, 1, n, 1 << n, 0);
            shift(Asm.ASR, 1 << n, n, 1, 0);
            shift(Asm.ASR, 1 << n - 1, n, 0, 0);
            shift(Asm.LSL, 1, n, 1 << n, 2);
            shift(Asm.LSR, 1 << n, n, 1, 2);
            shift(Asm.LSR, 1 << n - 1, n, 0, 2);
            shift(Asm.RRL, 1, n, 1 << n, 2);
            shift(Asm.RRR, 1 << n, n, 1, 2);
            shift(Asm.RRR, 1, n, 1 << 32 - n, 2);
            shift(Asm.RRL, 1 << 32 - n, n, 1, 2);
        }
    }

    // "ASL left by n, the sign stays, O becomes whether a bit unlike the sign was lost"
    private static void arithmeticLeft() {
        for (int n = 1; n <= 16; n++) {
            int lost = 1 << 31 - n;
            shift(Asm.ASL, lost, n, 0, 1);
            shift(Asm.ASL, lost - 1, n, Edge.MAX - ((1 << n) - 1), 0);
            shift(Asm.ASL, 0x40000000, n, 0, 1);
            shift(Asm.ASL, -lost, n, Edge.MIN, 0);
            shift(Asm.ASL, -lost - 1, n, -(1 << n), 1);
            shift(Asm.ASL, Edge.MIN, n, Edge.MIN, 1);
            shift(Asm.ASL, -1, n, -(1 << n), 0);
            shift(Asm.ASL, 0, n, 0, 0);
        }
        shift(Asm.ASL, 0x7FFFFFFF, 1, 0x7FFFFFFE, 1);
        shift(Asm.ASL, 0x3FFFFFFF, 1, 0x7FFFFFFE, 0);
        shift(Asm.ASL, 0xC0000000, 1, 0x80000000, 0);
        shift(Asm.ASL, 0xBFFFFFFF, 1, 0xFFFFFFFE, 1);
        shift(Asm.ASL, 0x00007FFF, 16, 0x7FFF0000, 0);
        shift(Asm.ASL, 0x00008000, 16, 0, 1);
        shift(Asm.ASL, 0x0000FFFF, 15, 0x7FFF8000, 0);
        shift(Asm.ASL, 0x00010000, 15, 0, 1);
    }

    // "ASR right by n, the sign comes in, O 0"
    private static void arithmeticRight() {
        shift(Asm.ASR, 0x80000000, 1, 0xC0000000, 0);
        shift(Asm.ASR, 0x80000000, 15, 0xFFFF0000, 0);
        shift(Asm.ASR, 0x80000000, 16, 0xFFFF8000, 0);
        shift(Asm.ASR, 0x7FFFFFFF, 1, 0x3FFFFFFF, 0);
        shift(Asm.ASR, 0x7FFFFFFF, 15, 0x0000FFFF, 0);
        shift(Asm.ASR, 0x7FFFFFFF, 16, 0x00007FFF, 0);
        shift(Asm.ASR, -1, 16, -1, 0);
        shift(Asm.ASR, -2, 1, -1, 0);
    }

    // "LSL, LSR without sign"
    private static void shiftsWithoutSign() {
        shift(Asm.LSL, 0x40000000, 1, 0x80000000, 2);
        shift(Asm.LSL, 0x80000000, 1, 0, 2);
        shift(Asm.LSL, 0xFFFFFFFF, 15, 0xFFFF8000, 2);
        shift(Asm.LSL, 0xFFFFFFFF, 16, 0xFFFF0000, 2);
        shift(Asm.LSR, 0x80000000, 1, 0x40000000, 2);
        shift(Asm.LSR, 0xFFFFFFFF, 1, 0x7FFFFFFF, 2);
        shift(Asm.LSR, 0xFFFFFFFF, 15, 0x0001FFFF, 2);
        shift(Asm.LSR, 0xFFFFFFFF, 16, 0x0000FFFF, 2);
    }

    // "RRL, RRR round"
    private static void shiftsRound() {
        shift(Asm.RRL, 0x80000000, 1, 1, 2);
        shift(Asm.RRL, 0x12345678, 8, 0x34567812, 2);
        shift(Asm.RRL, 0x12345678, 12, 0x45678123, 2);
        shift(Asm.RRL, 0x12345678, 16, 0x56781234, 2);
        shift(Asm.RRR, 1, 1, 0x80000000, 2);
        shift(Asm.RRR, 0x12345678, 8, 0x78123456, 2);
        shift(Asm.RRR, 0x12345678, 12, 0x67812345, 2);
        shift(Asm.RRR, 0x12345678, 16, 0x56781234, 2);
        shift(Asm.RRR, 0xFFFFFFFE, 1, 0x7FFFFFFF, 2);
    }

    private static void nothing(int word) {
        for (int o = 0; o <= 1; o++) {
            Edge.step(Integer.toOctalString(word) + " does nothing", with(o, 0x8123, 0x4567, word, 0), "P=66 held=0");
        }
    }

    // "100020 .. 100037 ASL, .."; "All others do nothing." One below the first and one above the last of each.
    private static void codesOfShifts() {
        int[] others = {
            0100000, 0100001, 0100016, 0100017, 0100060, 0100061, 0100076, 0100077, 0100120, 0100121, 0100140, 0100160, 0100176, 0100177,
            0101000, 0101016, 0101017, 0101060, 0101077, 0101120, 0101177, 0101200, 0101377, 0101400, 0101777,
            0104000, 0104017, 0104020, 0104037, 0104040, 0104057, 0104100, 0104117, 0105020, 0105040, 0105100, 0105117,
        };
        for (int word : others) {
            nothing(word);
        }
        int[] due = {0x82468ACE, 0xC091A2B3, 0x02468ACE, 0x4091A2B3, 0x02468ACF, 0xC091A2B3};
        int[] dueBy15 = {0xA2B38000, 0xFFFF0246, 0xA2B38000, 0x00010246, 0xA2B3C091, 0x8ACF0246};
        for (int i = 0; i < SHIFTS.length; i++) {
            int o = i < 2 ? 0 : 2;
            shift(SHIFTS[i], 0x81234567, 1, due[i], i == 0 ? 1 : o);
            shift(SHIFTS[i], 0x81234567, 15, dueBy15[i], i == 0 ? 1 : o);
        }
    }

    // "100200 MPY, 100400 DIV, 104200 DLD, 104400 DST"; "All others do nothing": they take no word at P.
    private static void codesOfDoubleWords() {
        for (int word : new int[] {Asm.MPY, Asm.DIV, Asm.DLD, Asm.DST}) {
            nothing(word - 1);
            nothing(word + 1);
            nothing(word | 017);
            nothing(word | 0077);
            nothing(word ^ 001000);
        }
        for (int word : new int[] {0100300, 0100500, 0100600, 0100777, 0104300, 0104500, 0104600, 0104777, 0105200, 0105400, 0105777}) {
            nothing(word);
        }
    }
}
