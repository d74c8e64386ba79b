/** 'Terms', row 3: instructions with a select code, each sentence at its boundary and one step to each side. */
public final class EdgesOfCodesTest {
    private static final int[] ALL = {0, 1, 2, 3, 4, 5, 6, 7, 8, 9, 10, 11, 12, 13, 31, 32, 62, 63};

    public static void main(String[] args) {
        haltsTellTheirCode();
        flagsAreSetAndReset();
        flagsAreAsked();
        flagOf0IsWhetherOn();
        flagOf1IsO();
        whatCodesTell();
        mergesAndLoads();
        lampsTakeWords();
        firstWordsAreKept();
        buffersTakeWords();
        codesThatTakeNothing();
        controlsOfChannels();
        controlsOfDevices();
        controlsOfOthers();
        controlOf0ResetsAll();
        countOrAddress();
        addressTakes15Bits();
        countTakes16Bits();
        clearsBesides();
        clearsBesidesOf0And1();
        skipsClearNothing();
        whatHoldsOff();
        Check.end("EdgesOfCodesTest");
    }

    private static OctalHouse with(int a, int b, int... program) {
        OctalHouse x = Asm.with(program);
        x.set(0, a);
        x.set(1, b);
        return x;
    }

    private static boolean hasBits(int sc) {
        return sc >= 6 && sc <= 11;
    }

    // "bits 8 .. 6: 0 HALTED (code: SC)" ("SC bits 5 .. 0")
    private static void haltsTellTheirCode() {
        for (int sc : ALL) {
            Edge.step("HLT " + sc, with(5, 6, Asm.io(Asm.HLT, sc)), "P=65 halted=1 code=" + sc);
            Edge.step("HLT " + sc + ", B", with(5, 6, Asm.io(Asm.HLT, sc) | Asm.ON_B), "P=65 halted=1 code=" + sc);
            Edge.step("HLT " + sc + ", C", with(5, 6, Asm.io(Asm.HLT, sc) | Asm.CLEAR), "P=65 halted=1 held=1 code=" + sc);
        }
    }

    private static String flag(int sc, int v) {
        if (sc == 0) {
            return " on=" + v;
        }
        if (sc == 1) {
            return " O=" + v;
        }
        return hasBits(sc) ? " " + sc + ".flag=" + v + " " + sc + ".asks=" + v : "";
    }

    // "STF, CLF: 0 the interrupt system is on, off; 1 O is 1, 0; 6 .. 11 FLAG and ASKS are set, reset."
    private static void flagsAreSetAndReset() {
        for (int sc : ALL) {
            for (int b = 0; b <= 1; b++) {
                int of = b * Asm.ON_B;
                OctalHouse x = with(5, 6, Asm.clf(sc) | of, Asm.stf(sc) | of, Asm.stf(sc) | of, Asm.clf(sc) | of);
                Edge.step("CLF " + sc + " at first", x, "P=65 held=1");
                Edge.step("STF " + sc, x, "P=66" + flag(sc, 1));
                Edge.step("STF " + sc + " again", x, "P=67");
                Edge.step("CLF " + sc, x, "P=68" + flag(sc, 0));
            }
        }
    }

    // "2 SFC: skip, if FLAG is 0; 3 SFS: skip, if it is 1"
    private static void flagsAreAsked() {
        for (int sc : ALL) {
            boolean has = hasBits(sc) || sc <= 1;
            Edge.step("SFC " + sc + ", 0", with(5, 6, Asm.io(Asm.SFC, sc)), "P=66");
            Edge.step("SFS " + sc + ", 0", with(5, 6, Asm.io(Asm.SFS, sc)), "P=65");
            OctalHouse c = with(5, 6, Asm.stf(sc), Asm.io(Asm.SFC, sc));
            c.run(1);
            Edge.step("SFC " + sc + ", set", c, "held=0 P=" + (has ? 66 : 67));
            OctalHouse s = with(5, 6, Asm.stf(sc), Asm.io(Asm.SFS, sc));
            s.run(1);
            Edge.step("SFS " + sc + ", set", s, "held=0 P=" + (has ? 67 : 66));
        }
    }

    // "FLAG of 0 is whether it is on"
    private static void flagOf0IsWhetherOn() {
        OctalHouse x = with(5, 6, Asm.stf(0), Asm.clc(0) | Asm.CLEAR, Asm.io(Asm.SFC, 0));
        x.run(1);
        Edge.step("CLC 0 with C", x, "P=66 on=0");
        Edge.step("SFC 0", x, "P=68 held=0");
    }

    // "of 1 O"
    private static void flagOf1IsO() {
        OctalHouse x = with(32766, 6, 0x0404, Asm.io(Asm.SFS, 1), 0x0404, Asm.io(Asm.SFS, 1));
        x.run(1);
        Edge.step("SFS 1 without O", x, "P=66");
        Edge.step("O", x, "P=67 A=32768 O=1");
        Edge.step("SFS 1 with O", x, "P=69");
    }

    /** A machine whose switches, COUNTs and BUFFERs are v and whose lamps, first words and ADDRESSes are others; P is 100. */
    private static OctalHouse telling(int v) {
        OctalHouse x = Asm.with(Asm.stc(2), Asm.stc(3), Asm.io(Asm.OT, 2), Asm.io(Asm.OT, 3), Asm.clc(2), Asm.clc(3), Asm.io(Asm.OT, 8), Asm.io(Asm.OT, 9), Asm.io(Asm.OT, 10),
            Asm.io(Asm.OT, 11), Asm.io(Asm.OT, 2) | Asm.ON_B, Asm.io(Asm.OT, 3) | Asm.ON_B, Asm.io(Asm.OT, 1) | Asm.ON_B, Asm.io(Asm.OT, 6) | Asm.ON_B, Asm.io(Asm.OT, 7) | Asm.ON_B, 0);
        x.set(0, v);
        x.set(1, 0x1234);
        x.switches(v);
        x.run(16);
        x.go(100);
        return x;
    }

    private static boolean tells(int sc) {
        return sc >= 1 && sc <= 3 || sc >= 8 && sc <= 11;
    }

    // "What SC tells: 1 the switches, 2, 3 COUNT, 8 .. 11 the BUFFER." (others 0)
    private static void whatCodesTell() {
        for (int v : new int[] {0, 1, 32768, 65535}) {
            for (int sc : ALL) {
                int due = tells(sc) ? v : 0;
                OctalHouse a = telling(v);
                a.set(100, Asm.io(Asm.LI, sc));
                Edge.step("LIA " + sc, a, "P=101 A=" + due);
                OctalHouse b = telling(v);
                b.set(100, Asm.io(Asm.LI, sc) | Asm.ON_B);
                Edge.step("LIB " + sc, b, "P=101 B=" + due);
            }
        }
    }

    // "4 A becomes A or what SC tells; 5 A becomes that" ("bit 11: B in place of A")
    private static void mergesAndLoads() {
        int[][] cases = {{0, 0, 0}, {0, 65535, 65535}, {65535, 0, 65535}, {0x8001, 0x7FFE, 0xFFFF}, {0x0F0F, 0x00FF, 0x0FFF}};
        for (int[] one : cases) {
            for (int sc : ALL) {
                int due = tells(sc) ? one[2] : one[1];
                OctalHouse a = telling(one[0]);
                a.set(0, one[1]);
                a.set(100, Asm.io(Asm.MI, sc));
                Edge.step("MIA " + sc, a, "P=101 A=" + due);
                OctalHouse b = telling(one[0]);
                b.set(1, one[1]);
                b.set(100, Asm.io(Asm.MI, sc) | Asm.ON_B);
                Edge.step("MIB " + sc, b, "P=101 B=" + due);
            }
        }
    }

    // "What goes to SC: 1 the lamps"
    private static void lampsTakeWords() {
        for (int v : new int[] {1, 32767, 32768, 65535}) {
            Edge.step("OTA 1", with(v, 6, Asm.io(Asm.OT, 1)), "P=65 lamps=" + v);
            Edge.step("OTB 1", with(5, v, Asm.io(Asm.OT, 1) | Asm.ON_B), "P=65 lamps=" + v);
        }
        OctalHouse x = with(9, 0, Asm.io(Asm.OT, 1), Asm.io(Asm.OT, 1) | Asm.ON_B);
        x.run(1);
        Edge.step("the lamps are 0 again", x, "P=66 lamps=0");
    }

    // "6, 7 the CHANNEL's first word (bits 5 .. 0 SC, 13, 15)"
    private static void firstWordsAreKept() {
        for (int sc = 6; sc <= 7; sc++) {
            for (int v : new int[] {1, 63, 64, 0x2008, 0x8008, 0xA03F, 32767, 32768, 65535}) {
                Edge.step("OTA " + sc, with(v, 6, Asm.io(Asm.OT, sc)), "P=65 " + sc + ".first=" + v);
                Edge.step("OTB " + sc, with(5, v, Asm.io(Asm.OT, sc) | Asm.ON_B), "P=65 " + sc + ".first=" + v);
            }
        }
    }

    // "8 .. 11 the BUFFER"
    private static void buffersTakeWords() {
        for (int sc = 8; sc <= 11; sc++) {
            for (int v : new int[] {1, 32768, 65535}) {
                Edge.step("OTA " + sc, with(v, 6, Asm.io(Asm.OT, sc)), "P=65 " + sc + ".buffer=" + v);
                Edge.step("OTB " + sc, with(5, v, Asm.io(Asm.OT, sc) | Asm.ON_B), "P=65 " + sc + ".buffer=" + v);
            }
            OctalHouse busy = with(7, 8, Asm.io(Asm.OT, sc), Asm.stc(sc), Asm.io(Asm.OT, sc) | Asm.ON_B, 0);
            busy.device(sc - 8, false, 2);
            busy.run(2);
            Edge.step("while BUSY is 1", busy, "P=67 held=0 " + sc + ".busy=1 " + sc + ".buffer=8");
            busy.run(1);
            Check.due("the later word goes OUT", busy.out(sc - 8, 0), 8);
        }
    }

    // "To others (4, 5, 12 ..) nothing happens"; "What goes to SC" says nothing of 0.
    private static void codesThatTakeNothing() {
        for (int sc : new int[] {0, 4, 5, 12, 13, 63}) {
            Edge.step("OTA " + sc, with(65535, 6, Asm.io(Asm.OT, sc)), "P=65");
            Edge.step("OTB " + sc, with(5, 65535, Asm.io(Asm.OT, sc) | Asm.ON_B), "P=65");
        }
    }

    // "STC, CLC: 6 .. 11 CONTROL set, reset; STC of 6, 7 besides: it is ACTIVE; CLC: not"
    private static void controlsOfChannels() {
        for (int sc = 6; sc <= 7; sc++) {
            OctalHouse x = with(5, 6, Asm.clc(sc), Asm.stc(sc), Asm.stc(sc), Asm.clc(sc), Asm.clc(sc));
            String set = " " + sc + ".control=1 " + sc + ".active=1";
            String reset = " " + sc + ".control=0 " + sc + ".active=0";
            Edge.step("CLC " + sc + " at first", x, "P=65 held=1");
            Edge.step("STC " + sc, x, "P=66" + set);
            Edge.step("STC " + sc + " again", x, "P=67");
            Edge.step("CLC " + sc, x, "P=68" + reset);
            Edge.step("CLC " + sc + " again", x, "P=69");
        }
    }

    // "STC of 8 .. 11 besides: STARTED"
    private static void controlsOfDevices() {
        for (int sc = 8; sc <= 11; sc++) {
            for (int delay : new int[] {1, 2, 100}) {
                OctalHouse x = with(5, 6, Asm.clc(sc), Asm.stc(sc), Asm.clc(sc));
                x.device(sc - 8, false, delay);
                Edge.step("CLC " + sc + " at first", x, "P=65 held=1");
                Edge.step("STC " + sc, x, "P=66 " + sc + ".control=1 " + sc + ".busy=" + delay);
                String ends = delay == 1 ? " " + sc + ".flag=1 " + sc + ".asks=1 " + sc + ".out=1" : "";
                Edge.step("CLC " + sc + " leaves BUSY", x, "P=67 " + sc + ".control=0 " + sc + ".busy=" + (delay - 1) + ends);
            }
        }
    }

    // "STC, CLC" of codes without CONTROL: only HELD OFF.
    private static void controlsOfOthers() {
        for (int sc : new int[] {1, 4, 5, 12, 13, 63}) {
            Edge.step("STC " + sc, with(5, 6, Asm.stc(sc)), "P=65 held=1");
            Edge.step("CLC " + sc, with(5, 6, Asm.clc(sc)), "P=65 held=1");
        }
        OctalHouse x = Edge.asking(6, 7, 8, 9, 10, 11);
        x.set(6, Asm.stc(0));
        Edge.step("STC 0", x, "held=1 6.asks=0 served=1 latest=6");
        OctalHouse y = Edge.asking(6, 7, 8, 9, 10, 11);
        y.set(6, Asm.clc(1));
        Edge.step("CLC 1", y, "held=1 6.asks=0 served=1 latest=6");
    }

    // "CLC 0: CONTROL of all is reset, no CHANNEL is ACTIVE."
    private static void controlOf0ResetsAll() {
        OctalHouse x = Edge.asking(6, 7, 8, 9, 10, 11);
        x.set(6, Asm.clc(0));
        Edge.step("CLC 0", x, "held=1 6.asks=0 served=1 latest=6 6.control=0 7.control=0 8.control=0 9.control=0 10.control=0 11.control=0 6.active=0 7.active=0");
        OctalHouse y = with(5, 6, Asm.stc(8), Asm.clc(0), 0);
        y.device(0, true, 3);
        y.run(1);
        Edge.step("CLC 0 leaves BUSY", y, "P=66 8.control=0 8.busy=2");
        Edge.step("it goes on", y, "P=67 held=0 8.busy=1");
        OctalHouse z = with(5, 6, Asm.clc(0));
        Edge.step("CLC 0 at first", z, "P=65 held=1");
    }

    // "STC, CLC of 2, 3: the next word that goes to it is its COUNT, its ADDRESS (as at first)."
    private static void countOrAddress() {
        for (int c = 0; c <= 1; c++) {
            int sc = 2 + c;
            String mine = " " + (6 + c) + ".";
            OctalHouse x = with(100, 200, Asm.io(Asm.OT, sc), Asm.stc(sc), Asm.io(Asm.OT, sc) | Asm.ON_B, Asm.clc(sc), Asm.io(Asm.OT, sc) | Asm.ON_B);
            Edge.step("as at first: ADDRESS", x, "P=65" + mine + "address=100");
            Edge.step("STC " + sc, x, "P=66 held=1");
            Edge.step("COUNT", x, "P=67 held=0" + mine + "count=200");
            OctalHouse y = with(100, 200, Asm.stc(sc), Asm.clc(sc), Asm.io(Asm.OT, sc), Asm.clc(sc), Asm.stc(sc), Asm.io(Asm.OT, sc));
            y.run(2);
            Edge.step("STC, CLC: ADDRESS", y, "P=67 held=0" + mine + "address=100");
            y.run(2);
            Edge.step("CLC, STC: COUNT", y, "P=70 held=0" + mine + "count=100");
            OctalHouse z = with(100, 200, Asm.stc(5 - sc), Asm.io(Asm.OT, sc));
            z.run(1);
            Edge.step("STC of the other one", z, "P=66 held=0" + mine + "address=100");
        }
    }

    // "ADDRESS (bits 14 .. 0; bit 15: 1 in, 0 out)"
    private static void addressTakes15Bits() {
        for (int c = 0; c <= 1; c++) {
            int[][] cases = {{0, 0, 0}, {1, 1, 0}, {4095, 4095, 0}, {4096, 4096, 0}, {32766, 32766, 0}, {32767, 32767, 0}, {32768, 0, 1}, {32769, 1, 1}, {65534, 32766, 1}, {65535, 32767, 1}};
            for (int[] one : cases) {
                OctalHouse x = with(one[0], 0x9249, Asm.io(Asm.OT, 2 + c) | Asm.ON_B, Asm.io(Asm.OT, 2 + c));
                String mine = (6 + c) + ".";
                Edge.step("another ADDRESS", x, "P=65 " + mine + "in=1 " + mine + "address=" + 0x1249);
                Edge.step("ADDRESS " + one[0], x, "P=66 " + mine + "address=" + one[1] + " " + mine + "in=" + one[2]);
            }
        }
    }

    // "2, 3 COUNT" (WORDS have 16 bits)
    private static void countTakes16Bits() {
        for (int c = 0; c <= 1; c++) {
            for (int v : new int[] {0, 1, 32767, 32768, 65534, 65535}) {
                OctalHouse x = with(v, 77, Asm.stc(2 + c), Asm.io(Asm.OT, 2 + c), Asm.io(Asm.LI, 2 + c) | Asm.ON_B);
                x.run(1);
                Edge.step("COUNT " + v, x, "P=66 held=0 " + (6 + c) + ".count=" + v);
                Edge.step("it tells " + v, x, "P=67 B=" + v);
            }
        }
    }

    // "In 0, 4, 5, 6, 7 with C 1 then CLF besides."
    private static void clearsBesides() {
        for (int sc = 6; sc <= 11; sc++) {
            String reset = " held=1" + flag(sc, 0);
            String r = sc >= 8 ? " " + sc + ".buffer=5" : " " + sc + ".first=5";
            String set = sc >= 8 ? " " + sc + ".busy=1" : " " + sc + ".active=1";
            String[] done = {" halted=1 code=" + sc, null, null, null, "", " A=0", r, " " + sc + ".control=1" + set};
            for (int kind = 0; kind < 8; kind++) {
                if (done[kind] != null) {
                    OctalHouse plain = with(5, 6, Asm.stf(sc), Asm.io(kind, sc));
                    plain.run(1);
                    Edge.step("kind " + kind + " of " + sc + ", C 0", plain, "P=66 held=0" + done[kind] + (kind == 7 ? " held=1" : ""));
                    OctalHouse clear = with(5, 6, Asm.stf(sc), Asm.io(kind, sc) | Asm.CLEAR);
                    clear.run(1);
                    Edge.step("kind " + kind + " of " + sc + ", C 1", clear, "P=66" + done[kind] + reset);
                }
            }
            OctalHouse clc = with(5, 6, Asm.stf(sc), Asm.clc(sc) | Asm.CLEAR);
            clc.run(1);
            Edge.step("CLC of " + sc + ", C 1", clc, "P=66" + reset);
        }
    }

    // "CLF besides", of 0 and 1: the interrupt system is off, O is 0.
    private static void clearsBesidesOf0And1() {
        for (int sc = 0; sc <= 1; sc++) {
            for (int kind : new int[] {Asm.MI, Asm.OT, Asm.CTL}) {
                OctalHouse plain = with(0, 6, Asm.stf(sc), Asm.io(kind, sc));
                plain.run(1);
                Edge.step("kind " + kind + " of " + sc + ", C 0", plain, "P=66 held=" + (kind == Asm.CTL ? 1 : 0));
                OctalHouse x = with(0, 6, Asm.stf(sc), Asm.io(kind, sc) | Asm.CLEAR);
                x.run(1);
                Edge.step("kind " + kind + " of " + sc + ", C 1", x, "P=66" + flag(sc, 0));
            }
            OctalHouse halt = with(0, 6, Asm.stf(sc), Asm.io(Asm.HLT, sc) | Asm.CLEAR);
            halt.run(1);
            Edge.step("HLT " + sc + ", C 1", halt, "P=66 halted=1 code=" + sc + flag(sc, 0));
        }
    }

    // "In 0, 4, 5, 6, 7 with C 1": SFC and SFS with C 1 reset nothing.
    private static void skipsClearNothing() {
        for (int sc : new int[] {0, 1, 6, 7, 8, 11}) {
            OctalHouse x = with(5, 6, Asm.stf(sc), Asm.io(Asm.SFC, sc) | Asm.CLEAR, Asm.io(Asm.SFS, sc) | Asm.CLEAR);
            x.run(1);
            Edge.step("SFC " + sc + " with C", x, "P=66 held=0");
            Edge.step("SFS " + sc + " with C", x, "P=68");
        }
    }

    // "STF, CLF, STC, CLC, and what has CLF besides, are HELD OFF."
    private static void whatHoldsOff() {
        for (int sc : ALL) {
            for (int kind = 0; kind < 8; kind++) {
                for (int b = 0; b <= 1; b++) {
                    for (int c = 0; c <= 1; c++) {
                        OctalHouse x = with(5, 6, Asm.io(kind, sc) | b * Asm.ON_B | c * Asm.CLEAR);
                        x.run(1);
                        boolean skip = kind == 2 || kind == 3;
                        boolean due = kind == 1 || kind == 7 || c == 1 && !skip;
                        Check.due("HELD OFF by kind " + kind + " of " + sc + ", C " + c, x.state(6), due ? 1 : 0);
                    }
                }
            }
        }
        OctalHouse others = with(5, 6, Asm.stf(12), 0x0404);
        others.run(1);
        Edge.step("no other instruction", others, "P=66 held=0 A=6");
    }
}
