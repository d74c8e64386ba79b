/** Each sentence of 'Terms', rows 1 and 2, that names a boundary: at it, and one step to each side. */
public final class EdgesOfTurnsTest {
    private static final int NOTHING = 0;
    private static final int INA = 0x0404;
    private static final int INB = 0x0C04;
    private static final int SKIP = 0x0401;

    public static void main(String[] args) {
        wordsHave16Bits();
        pHas15Bits();
        eAndOHaveOneBit();
        addresses0And1AreAAndB();
        aAndBAreInstructionsToo();
        wordsAbove4095Are0();
        wordsAbove4095AreLost();
        programsRunAbove4095();
        othersTakeNothing();
        codes6To11HaveBits();
        delayCounts();
        tapeThatIsEmpty();
        buffersGoOut();
        notBusyStaysSo();
        startedWhileBusy();
        haltedMachinesRest();
        channelsThatAreNotActive();
        channelsOfDevicesAlone();
        channelsWaitForFlag();
        channelsMoveInAndOut();
        channelAddressGoesRound();
        channelAddressAboveMemory();
        channelCountEnds();
        channelResetsControl();
        channelStartsAgain();
        stepsComeInOrder();
        channel0ComesFirst();
        interruptsOnAndOff();
        heldOffForOneTurn();
        lowestCodeComesFirst();
        lowestCodeThatDoesNotAsk();
        codesWithoutControlOrFlag();
        asksIsReset();
        interruptPageIs0();
        pageIsThatOfP();
        oneMoreWordAtP();
        indirectionsTo32();
        indirectionHaltDoesNothingElse();
        indirectionsAboveMemory();
        indirectionsThroughA();
        Check.end("EdgesOfTurnsTest");
    }

    // "WORDS have 16 bits, told without sign."
    private static void wordsHave16Bits() {
        for (int v : new int[] {0, 1, 32766, 32768, 65534}) {
            OctalHouse x = Asm.with(INA, INB);
            x.set(0, v);
            x.set(1, v);
            Edge.step("INA of " + v, x, "P=65 A=" + (v + 1));
            Edge.step("INB of " + v, x, "P=66 B=" + (v + 1));
        }
        OctalHouse x = Asm.with(INA);
        x.set(0, 65535);
        Edge.step("INA of 65535", x, "P=65 A=0 E=1");
    }

    // "P (15 bits)"
    private static void pHas15Bits() {
        int[][] cases = {{32765, 32766}, {32766, 32767}, {32767, 0}, {0, 1}};
        for (int[] one : cases) {
            OctalHouse x = new OctalHouse();
            x.go(one[0]);
            Edge.step("from " + one[0], x, "P=" + one[1]);
        }
        for (int[] one : cases) {
            OctalHouse x = Edge.asking(8);
            x.set(8, SKIP);
            x.go(one[0]);
            Edge.step("a skip at " + one[0], x, "P=" + one[1] + " served=1 latest=8 8.asks=0");
        }
    }

    // "E, O (one bit each)"
    private static void eAndOHaveOneBit() {
        OctalHouse x = Asm.with(INA, INA, INA, 0x0480, 0x0480);
        x.set(0, 65535);
        Edge.step("a carry", x, "P=65 A=0 E=1");
        x.set(0, 65535);
        Edge.step("another carry", x, "P=66 A=0");
        Edge.step("no carry", x, "P=67 A=1");
        Edge.step("CME", x, "P=68 E=0");
        Edge.step("CME again", x, "P=69 E=1");
        OctalHouse y = Asm.with(INA, INA, INA);
        y.set(0, 32767);
        Edge.step("O", y, "P=65 A=32768 O=1");
        y.set(0, 32767);
        Edge.step("O again", y, "P=66 A=32768");
        Edge.step("O stays", y, "P=67 A=32769");
    }

    // "0 is A, 1 is B" (2 is neither)
    private static void addresses0And1AreAAndB() {
        OctalHouse x = Asm.with(Asm.mem(Asm.STB, 0), Asm.mem(Asm.STA, 2), Asm.mem(Asm.LDB, 2), Asm.mem(Asm.ISZ, 1), Asm.mem(Asm.ISZ, 2), Asm.mem(Asm.ADA, 0));
        x.set(0, 5);
        x.set(1, 6);
        Edge.step("STB 0", x, "P=65 A=6");
        Edge.step("STA 2", x, "P=66 [2]=6");
        x.set(2, 77);
        Edge.step("LDB 2", x, "P=67 B=77");
        Edge.step("ISZ 1", x, "P=68 B=78");
        Edge.step("ISZ 2", x, "P=69 [2]=78");
        Edge.step("ADA 0", x, "P=70 A=12");
    }

    // "0 is A, 1 is B", where P stands on them.
    private static void aAndBAreInstructionsToo() {
        OctalHouse x = new OctalHouse();
        x.set(0, INB);
        x.set(1, 0x0400);
        x.set(2, INA);
        Edge.step("A is done", x, "P=1 B=1025");
        x.set(1, INA);
        Edge.step("B is done", x, "P=2 A=" + (INB + 1));
        Edge.step("then 2", x, "P=3 A=" + (INB + 2));
    }

    // "of those above 4095 a word is 0"
    private static void wordsAbove4095Are0() {
        for (int m : new int[] {2, 4094, 4095, 4096, 4097, 4098, 8191, 8192, 16384, 32766, 32767}) {
            OctalHouse x = Asm.with(Asm.mem(Asm.LDB, 100) | Asm.INDIRECT);
            Asm.load(x, 0, 7, 8, 9);
            x.set(100, m);
            x.set(4094, 44);
            x.set(4095, 55);
            int due = m == 2 ? 9 : m == 4094 ? 44 : m == 4095 ? 55 : 0;
            Edge.step("LDB of " + m, x, "P=65 B=" + due);
        }
    }

    // "and what is put there is lost"
    private static void wordsAbove4095AreLost() {
        for (int m : new int[] {4094, 4095, 4096, 4097, 4098, 8191, 8192, 16384, 32766, 32767}) {
            String put = m <= 4095 ? " [" + m + "]=" : "";
            OctalHouse x = Asm.with(Asm.mem(Asm.STA, 100) | Asm.INDIRECT, Asm.mem(Asm.ISZ, 100) | Asm.INDIRECT, Asm.mem(Asm.JSB, 100) | Asm.INDIRECT);
            x.set(0, 300);
            x.set(100, m);
            Edge.step("STA to " + m, x, "P=65" + (put.isEmpty() ? "" : put + 300));
            Edge.step("ISZ of " + m, x, "P=66" + (put.isEmpty() ? "" : put + 301));
            Edge.step("JSB to " + m, x, "held=1 P=" + (m + 1 & 32767) + (put.isEmpty() ? "" : put + 67));
        }
    }

    // "MEMORY has addresses 0 .. 4095", where P stands above them.
    private static void programsRunAbove4095() {
        OctalHouse x = new OctalHouse();
        x.set(4094, INA);
        x.set(4095, INA);
        x.set(0, INB);
        x.go(4094);
        Edge.step("at 4094", x, "P=4095 A=" + (INB + 1));
        Edge.step("at 4095", x, "P=4096 A=" + (INB + 2));
        Edge.step("at 4096", x, "P=4097");
        Edge.turns("and on", x, 1000, "P=5097");
    }

    // "To others (4, 5, 12 ..) nothing happens, and what they tell is 0."
    private static void othersTakeNothing() {
        for (int sc : new int[] {4, 5, 12, 13, 16, 31, 32, 40, 62, 63}) {
            for (int b = 0; b <= 1; b++) {
                for (int c = 0; c <= 1; c++) {
                    String r = b == 0 ? "A" : "B";
                    String held = c == 1 ? " held=1" : "";
                    String[] due = {"P=65 halted=1 code=" + sc + held, "P=65 held=1", "P=66", "P=65", "P=65" + held, "P=65 " + r + "=0" + held, "P=65" + held, "P=65 held=1"};
                    for (int kind = 0; kind < 8; kind++) {
                        OctalHouse x = Asm.with(Asm.io(kind, sc) | b * Asm.ON_B | c * Asm.CLEAR);
                        x.set(0, 0xA5A5);
                        x.set(1, 0x5A5A);
                        x.switches(0xFFFF);
                        Edge.step("kind " + kind + " of " + sc, x, due[kind]);
                    }
                }
            }
        }
    }

    // "6 .. 11 have CONTROL, FLAG, ASKS (bits)."
    private static void codes6To11HaveBits() {
        for (int sc : new int[] {5, 6, 7, 8, 9, 10, 11, 12}) {
            boolean has = sc >= 6 && sc <= 11;
            OctalHouse x = Asm.with(Asm.stf(sc), Asm.stf(sc), Asm.stc(sc), Asm.clf(sc), Asm.clc(sc));
            if (sc >= 8 && sc <= 11) {
                x.device(sc - 8, true, 100);
            }
            Edge.step("STF " + sc, x, "P=65 held=1" + (has ? " " + sc + ".flag=1 " + sc + ".asks=1" : ""));
            Edge.step("STF again " + sc, x, "P=66");
            String started = sc == 6 || sc == 7 ? " " + sc + ".active=1" : has ? " " + sc + ".busy=100" : "";
            Edge.step("STC " + sc, x, "P=67" + started + (has ? " " + sc + ".control=1" : ""));
        }
    }

    // "STARTED: BUSY is DELAY. As BUSY goes from 1 to 0: .. FLAG and ASKS are set." (DELAY 1 .. 100)
    private static void delayCounts() {
        for (int delay : new int[] {1, 2, 3, 99, 100}) {
            OctalHouse x = Asm.with(Asm.stc(11));
            x.device(3, true, delay);
            x.give(3, 600);
            Edge.step("STC", x, "P=65 held=1 11.control=1 11.busy=" + delay);
            if (delay > 1) {
                Edge.turns("till BUSY is 1", x, delay - 1, "held=0 11.busy=1 P=" + (64 + delay));
            }
            Edge.step("BUSY from 1 to 0", x, "held=0 11.busy=0 11.flag=1 11.asks=1 11.tape=0 11.buffer=600 P=" + (65 + delay));
            Edge.step("then no more", x, "P=" + (66 + delay));
        }
    }

    // "BUFFER becomes the next word of TAPE (0, if there is none)"
    private static void tapeThatIsEmpty() {
        for (int words = 0; words <= 2; words++) {
            OctalHouse x = Asm.with(Asm.io(Asm.OT, 8), Asm.stc(8), Asm.stc(8), NOTHING);
            x.set(0, 999);
            for (int i = 0; i < words; i++) {
                x.give(0, 70 + i);
            }
            x.run(2);
            int first = words >= 1 ? 70 : 0;
            int second = words >= 2 ? 71 : 0;
            Edge.step(words + " words: the first", x, "P=67 8.busy=1 8.flag=1 8.asks=1 8.buffer=" + first + " 8.tape=" + Math.max(words - 1, 0));
            Edge.step(words + " words: the second", x, "P=68 held=0 8.busy=0 8.buffer=" + second + " 8.tape=0");
        }
    }

    // "giving out: BUFFER goes OUT"
    private static void buffersGoOut() {
        for (int v : new int[] {0, 1, 65535}) {
            OctalHouse x = Asm.with(Asm.io(Asm.OT, 8), Asm.stc(8), NOTHING);
            x.device(0, false, 1);
            x.give(0, 5);
            x.set(0, v);
            x.run(2);
            Check.due("not yet", x.out(0, 0), -1);
            Edge.step("OUT", x, "P=67 held=0 8.busy=0 8.flag=1 8.asks=1 8.out=1");
            Check.due("the word", x.out(0, 0), v);
            Check.due("no second one", x.out(0, 1), -1);
        }
    }

    // "each DEVICE that is BUSY: BUSY is 1 less": one that is not BUSY gets no FLAG.
    private static void notBusyStaysSo() {
        OctalHouse x = Asm.with(Asm.stc(8), NOTHING, Asm.clf(8), NOTHING);
        x.give(0, 1);
        x.give(0, 2);
        x.run(3);
        Edge.turns("no second FLAG", x, 300, "P=367 held=0");
        OctalHouse y = new OctalHouse();
        Edge.turns("devices at first", y, 2000, "P=2000");
    }

    // "STARTED: BUSY is DELAY", of one that is BUSY.
    private static void startedWhileBusy() {
        OctalHouse x = Asm.with(Asm.stc(8), Asm.stc(8), Asm.stc(8), NOTHING);
        x.device(0, true, 2);
        Edge.step("STC", x, "P=65 held=1 8.control=1 8.busy=2");
        Edge.step("STC at 1: BUSY again", x, "P=66 8.busy=2");
        Edge.step("and again", x, "P=67");
        Edge.step("1 less", x, "P=68 held=0 8.busy=1");
        OctalHouse y = Asm.with(Asm.stc(8), Asm.stc(8), NOTHING);
        Edge.step("DELAY 1", y, "P=65 held=1 8.control=1 8.busy=1");
        Edge.step("FLAG comes first, then it is STARTED", y, "P=66 8.flag=1 8.asks=1");
    }

    // "A TURN, unless HALTED"
    private static void haltedMachinesRest() {
        OctalHouse x = channel(0, 0x8008, 0x8000 | 500, 65530, 8, 123);
        x.set(x.state(2), Asm.io(Asm.HLT, 1));
        x.device(0, true, 1);
        x.run(1);
        Edge.changes("BUSY and ACTIVE, but HALTED", x, "", () -> Check.due("run", x.run(2000), 0));
        x.go(-1);
        Edge.step("not HALTED", x, "P=77 8.busy=1 [501]=0 6.moved=2 6.count=65532 6.address=502");
    }

    /** A channel that is ACTIVE and a device whose FLAG is set with a word in its BUFFER: the next TURN moves it; P is 75. */
    private static OctalHouse channel(int c, int first, int address, int count, int sc, int buffer) {
        OctalHouse x = Asm.with(Asm.mem(Asm.LDA, 100), Asm.io(Asm.OT, 6 + c), Asm.mem(Asm.LDA, 101), Asm.io(Asm.OT, 2 + c), Asm.stc(2 + c),
            Asm.mem(Asm.LDA, 102), Asm.io(Asm.OT, 2 + c), Asm.stc(6 + c), Asm.mem(Asm.LDA, 103), Asm.io(Asm.OT, sc), Asm.stf(sc));
        Asm.load(x, 100, first, address, count, buffer);
        x.run(11);
        x.set(0, 0);
        return x;
    }

    private static String gone(int sc) {
        return "held=0 " + sc + ".flag=0 " + sc + ".asks=0";
    }

    private static String moved(int c, int address, int count) {
        int sc = 6 + c;
        return " " + sc + ".moved=1 " + sc + ".address=" + address + " " + sc + ".count=" + count;
    }

    private static String ended(int c) {
        return " " + (6 + c) + ".flag=1 " + (6 + c) + ".asks=1 " + (6 + c) + ".active=0";
    }

    // "CHANNEL 0, then 1, if it is ACTIVE"
    private static void channelsThatAreNotActive() {
        for (int c = 0; c <= 1; c++) {
            OctalHouse x = channel(c, 0x0008, 0x8000 | 500, 60000, 8, 123);
            Edge.step("ACTIVE", x, gone(8) + " P=76 [500]=123" + moved(c, 501, 60001));
            OctalHouse y = channel(c, 0x0008, 0x8000 | 500, 60000, 4, 123);
            Asm.load(y, 75, Asm.clc(6 + c), Asm.stf(8), NOTHING);
            y.run(2);
            Edge.step("not ACTIVE", y, "P=78 held=0");
        }
    }

    // "the SC of its first word is 8 .. 11" (bits 5 .. 0)
    private static void channelsOfDevicesAlone() {
        for (int c = 0; c <= 1; c++) {
            for (int sc : new int[] {0, 6, 7, 8, 9, 10, 11, 12, 13, 40, 63}) {
                boolean device = sc >= 8 && sc <= 11;
                OctalHouse x = channel(c, sc, 0x8000 | 500, 60000, device ? sc : 8, 123);
                Edge.step("first word " + sc, x, (device ? gone(sc) + " [500]=123" + moved(c, 501, 60001) : "held=0") + " P=76");
            }
            for (int bit : new int[] {6, 7, 8, 9, 10, 11, 12, 14}) {
                OctalHouse x = channel(c, 1 << bit | 11, 0x8000 | 500, 65535, 11, 123);
                Edge.step("bit " + bit + " is nothing", x, gone(11) + " P=76 [500]=123" + moved(c, 501, 0) + ended(c));
            }
        }
    }

    // "and that DEVICE's FLAG is set"
    private static void channelsWaitForFlag() {
        for (int c = 0; c <= 1; c++) {
            OctalHouse x = channel(c, 9, 0x8000 | 500, 60000, 8, 123);
            Edge.step("another one's FLAG", x, "held=0 P=76");
            x.set(76, Asm.stf(9));
            Edge.step("STF 9", x, "held=1 P=77 9.flag=1 9.asks=1");
            Edge.step("then it moves", x, gone(9) + " P=78 [500]=0" + moved(c, 501, 60001));
            Edge.step("once", x, "P=79");
        }
    }

    // "in: the BUFFER to MEMORY at the ADDRESS; out: from there to the BUFFER"
    private static void channelsMoveInAndOut() {
        for (int c = 0; c <= 1; c++) {
            OctalHouse in = channel(c, 10, 0x8000 | 500, 60000, 10, 65535);
            in.set(500, 7);
            Edge.step("in", in, gone(10) + " P=76 [500]=65535" + moved(c, 501, 60001));
            OctalHouse out = channel(c, 10, 500, 60000, 10, 65535);
            out.set(500, 7);
            Edge.step("out", out, gone(10) + " P=76 10.buffer=7" + moved(c, 501, 60001));
        }
    }

    // "ADDRESS is 1 more (15 bits)"
    private static void channelAddressGoesRound() {
        int[][] cases = {{32765, 32766}, {32766, 32767}, {32767, 0}, {0, 1}, {1, 2}};
        for (int[] one : cases) {
            OctalHouse out = channel(0, 8, one[0], 60000, 8, 123);
            Edge.step("out from " + one[0], out, gone(8) + " P=76 8.buffer=0" + moved(0, one[1], 60001));
            OctalHouse in = channel(1, 8, 0x8000 | one[0], 60000, 8, 123);
            String put = one[0] == 0 ? " A=123" : one[0] == 1 ? " B=123" : "";
            Edge.step("in to " + one[0], in, gone(8) + " P=76" + put + moved(1, one[1], 60001));
        }
    }

    // "of those above 4095 a word is 0, and what is put there is lost", by a channel.
    private static void channelAddressAboveMemory() {
        for (int address : new int[] {4094, 4095, 4096, 4097, 8192}) {
            OctalHouse in = channel(0, 8, 0x8000 | address, 60000, 8, 123);
            String put = address <= 4095 ? " [" + address + "]=123" : "";
            Edge.step("in to " + address, in, gone(8) + " P=76" + put + moved(0, address + 1, 60001));
            OctalHouse out = channel(1, 8, address, 60000, 8, 123);
            out.set(4094, 44);
            out.set(4095, 55);
            int due = address == 4094 ? 44 : address == 4095 ? 55 : 0;
            Edge.step("out from " + address, out, gone(8) + " P=76 8.buffer=" + due + moved(1, address + 1, 60001));
        }
    }

    // "COUNT 1 more (16 bits). If COUNT is 0 then: FLAG and ASKS of the CHANNEL are set, it is not ACTIVE"
    private static void channelCountEnds() {
        for (int c = 0; c <= 1; c++) {
            int[][] cases = {{65533, 65534}, {65534, 65535}, {65535, 0}, {0, 1}, {1, 2}, {32767, 32768}};
            for (int[] one : cases) {
                OctalHouse x = channel(c, 8, 0x8000 | 500, one[0], 8, 123);
                Edge.step("COUNT " + one[0], x, gone(8) + " P=76 [500]=123" + moved(c, 501, one[1]) + (one[1] == 0 ? ended(c) : ""));
            }
        }
    }

    // "bit 13 of its first word: the DEVICE's CONTROL is reset" (only as COUNT is 0 then)
    private static void channelResetsControl() {
        for (int sc = 8; sc <= 11; sc++) {
            for (int bit : new int[] {12, 13, 14}) {
                for (int count : new int[] {65534, 65535, 0}) {
                    OctalHouse x = channel(0, 1 << bit | sc, 0x8000 | 500, count, 4, 0);
                    x.give(sc - 8, 5);
                    x.set(75, Asm.stc(sc));
                    x.run(1);
                    boolean ends = count == 65535;
                    String came = " P=77 [500]=5 " + sc + ".busy=0 " + sc + ".tape=0 " + sc + ".buffer=5";
                    String reset = ends && bit == 13 ? " " + sc + ".control=0" : "";
                    Edge.step("bit " + bit + ", COUNT " + count, x, gone(sc) + came + moved(0, 501, count + 1 & 65535) + (ends ? ended(0) : "") + reset);
                }
            }
        }
    }

    // "Else, bit 15 of it: the DEVICE's CONTROL is set, it is STARTED." (not as COUNT is 0 then)
    private static void channelStartsAgain() {
        for (int count : new int[] {65534, 65535, 0}) {
            for (int first : new int[] {0x0008, 0x4008, 0x8008, 0xA008, 0x2008}) {
                OctalHouse x = channel(1, first, 0x8000 | 500, count, 8, 123);
                x.device(0, true, 100);
                boolean ends = count == 65535;
                String again = !ends && first >= 0x8000 ? " 8.control=1 8.busy=100" : "";
                Edge.step("first word " + first + ", COUNT " + count, x,
                    gone(8) + " P=76" + moved(1, 501, count + 1 & 65535) + (ends ? ended(1) : "") + again);
            }
        }
    }

    // "(1) .. (2) .. (3) .. (4)": FLAG, word moved, interrupt and instruction come in one TURN, in this order.
    private static void stepsComeInOrder() {
        OctalHouse x = channel(0, 8, 0x8000 | 500, 65535, 4, 0);
        Asm.load(x, 75, Asm.stf(0), Asm.stc(8), Asm.mem(Asm.LDA, 500), Asm.mem(Asm.LDA, 500));
        x.give(0, 321);
        x.run(2);
        Edge.step("BUSY to 0 and moved, then A is loaded (HELD OFF yet)", x,
            "held=0 P=78 8.busy=0 8.tape=0 8.buffer=321 [500]=321 A=321" + moved(0, 501, 0) + ended(0));
        x.set(6, INB);
        Edge.step("then the channel is served", x, "6.asks=0 served=1 latest=6 B=1");
        OctalHouse y = channel(0, 8, 0x8000 | 500, 65535, 8, 9);
        y.set(6, INB);
        Asm.load(y, 75, Asm.clf(8), Asm.clf(6));
        Edge.step("moved before CLF", y, "held=1 P=76 8.flag=0 8.asks=0 [500]=9" + moved(0, 501, 0) + ended(0));
        Edge.step("CLF of the channel", y, "P=77 6.flag=0 6.asks=0");
        OctalHouse z = channel(0, 8, 0x8000 | 500, 65535, 4, 0);
        Asm.load(z, 75, Asm.stf(0), NOTHING);
        z.device(0, true, 3);
        z.set(77, Asm.stc(8));
        z.set(6, INB);
        z.run(3);
        z.run(2);
        Edge.step("FLAG, move and interrupt in one TURN", z,
            "8.busy=0 8.flag=0 8.asks=0 8.buffer=0 B=1 served=1 latest=6 6.moved=1 6.address=501 6.count=0 6.flag=1 6.asks=0 6.active=0");
    }

    // "CHANNEL 0, then 1": one device's word goes to channel 0; of two devices' words channel 1's comes later.
    private static void channel0ComesFirst() {
        OctalHouse x = channel(1, 9, 0x8000 | 500, 60000, 4, 0);
        Asm.load(x, 200, Asm.io(Asm.OT, 6), Asm.io(Asm.OT, 2) | Asm.ON_B, Asm.stc(6), Asm.mem(Asm.LDA, 100), Asm.io(Asm.OT, 9), Asm.stf(9));
        x.set(0, 9);
        x.set(1, 0x8000 | 500);
        x.set(100, 77);
        x.go(200);
        x.run(6);
        Edge.step("one device, both channels", x, gone(9) + " P=207 [500]=77" + moved(0, 501, 1));
        Edge.step("no word is left for channel 1", x, "P=208");
        OctalHouse y = channel(1, 9, 0x8000 | 500, 60000, 4, 0);
        Asm.load(y, 200, Asm.io(Asm.OT, 6), Asm.io(Asm.OT, 2) | Asm.ON_B, Asm.io(Asm.OT, 8), Asm.mem(Asm.LDA, 100), Asm.io(Asm.OT, 9), Asm.stf(8), Asm.stf(9), Asm.stc(6));
        y.set(0, 8);
        y.set(1, 0x8000 | 500);
        y.set(100, 77);
        y.go(200);
        y.run(7);
        Edge.step("channel 1 takes its word; channel 0 is ACTIVE then", y, "P=208 9.flag=0 9.asks=0 [500]=77 6.active=1 6.control=1" + moved(1, 501, 60001));
        Edge.step("channel 0 a TURN later", y, gone(8) + " P=209 [500]=8" + moved(0, 501, 1));
    }

    // "If the interrupt system is on"
    private static void interruptsOnAndOff() {
        OctalHouse x = Edge.asking(9);
        x.set(9, INA);
        Edge.step("on", x, "A=1 9.asks=0 served=1 latest=9");
        OctalHouse z = Asm.with(Asm.stc(9), Asm.stf(9), NOTHING, NOTHING);
        z.device(1, true, 100);
        z.run(3);
        Edge.step("off", z, "P=68 9.busy=97");
        OctalHouse w = Asm.with(Asm.stc(9), Asm.stf(9), Asm.stf(0), Asm.clf(0), NOTHING, NOTHING);
        w.device(1, true, 100);
        w.run(5);
        Edge.step("on and off again, both HELD OFF", w, "P=70 9.busy=95");
    }

    // "and is not HELD OFF"; "HELD OFF is, for the next TURN, what the INSTRUCTION makes so; else not."
    private static void heldOffForOneTurn() {
        OctalHouse x = Asm.with(Asm.stc(9), Asm.stf(9), Asm.stf(0), NOTHING, NOTHING);
        x.run(2);
        x.device(1, true, 1);
        x.set(9, INA);
        Edge.step("STF 0", x, "P=67 on=1");
        Edge.step("the TURN behind it is HELD OFF", x, "P=68 held=0");
        Edge.step("the one behind that serves", x, "A=1 9.asks=0 served=1 latest=9");
        OctalHouse y = Edge.asking(9);
        y.set(9, Asm.clf(12));
        Edge.step("an interrupt's INSTRUCTION holds off too", y, "held=1 9.asks=0 served=1 latest=9");
        Edge.step("for one TURN", y, "held=0 P=69");
        OctalHouse z = Asm.with(Asm.stc(9), Asm.stf(9), Asm.stf(0), Asm.mem(Asm.JMP, 100) | Asm.INDIRECT, NOTHING);
        z.set(100, 68);
        z.run(3);
        z.device(1, true, 1);
        Edge.step("HELD OFF by STF, then by JMP INDIRECT", z, "P=68");
        Edge.step("HELD OFF by that", z, "P=69 held=0");
        Edge.step("served", z, "9.asks=0 served=1 latest=9");
    }

    // "of the lowest SC with CONTROL and FLAG set"
    private static void lowestCodeComesFirst() {
        for (int low = 6; low <= 11; low++) {
            for (int high = low + 1; high <= 11; high++) {
                for (OctalHouse x : new OctalHouse[] {Edge.asking(low, high), Edge.asking(high, low)}) {
                    x.set(low, INA);
                    x.set(high, INB);
                    int p = x.state(2);
                    Edge.step(low + " before " + high, x, "A=1 " + low + ".asks=0 served=1 latest=" + low);
                    x.set(p, Asm.clf(low));
                    Edge.step(low + " is reset", x, "held=1 " + low + ".flag=0 P=" + (p + 1));
                    Edge.step("HELD OFF", x, "held=0 P=" + (p + 2));
                }
            }
        }
    }

    // "if it ASKS": a lowest one that does not ask keeps the higher ones waiting.
    private static void lowestCodeThatDoesNotAsk() {
        for (int low = 6; low <= 10; low++) {
            OctalHouse x = Edge.asking(low, low + 1);
            x.set(low + 1, INB);
            x.run(1);
            int p = x.state(2);
            Edge.step(low + " was served", x, "P=" + (p + 1));
            Edge.step("the next still waits", x, "P=" + (p + 2));
            x.set(p + 2, Asm.clc(low));
            Edge.step("CLC " + low, x, "held=1 " + low + ".control=0 P=" + (p + 3) + (low < 8 ? " " + low + ".active=0" : ""));
            Edge.step("HELD OFF", x, "held=0 P=" + (p + 4));
            Edge.step("then the next is served", x, "B=1 " + (low + 1) + ".asks=0 served=2 latest=" + (low + 1));
        }
        OctalHouse y = Edge.asking(11);
        y.run(1);
        Asm.load(y, y.state(2), Asm.stc(6), Asm.stf(6), NOTHING);
        y.run(3);
        Edge.step("a lower one that asks comes through", y, "6.asks=0 served=2 latest=6");
    }

    // "with CONTROL and FLAG set": both are needed.
    private static void codesWithoutControlOrFlag() {
        for (int sc = 6; sc <= 10; sc++) {
            OctalHouse x = Asm.with(Asm.stf(sc), Asm.stc(11), Asm.stf(11), Asm.stf(0), NOTHING);
            x.run(5);
            Check.due("FLAG of " + sc + " without CONTROL", x.code(sc, 0) * 10 + x.code(sc, 1), 1);
            x.run(1);
            Check.due("keeps none waiting", x.state(12), 11);
            OctalHouse y = Asm.with(Asm.stc(sc), Asm.stc(11), Asm.stf(11), Asm.stf(0), NOTHING);
            if (sc >= 8) {
                y.device(sc - 8, true, 100);
            }
            y.run(5);
            Check.due("CONTROL of " + sc + " without FLAG", y.code(sc, 0) * 10 + y.code(sc, 1), 10);
            y.run(1);
            Check.due("keeps none waiting", y.state(12), 11);
        }
    }

    // "ASKS is reset, and the INSTRUCTION is the word at the address that the SC is"
    private static void asksIsReset() {
        for (int sc = 6; sc <= 11; sc++) {
            OctalHouse x = Edge.asking(sc);
            x.set(sc - 1, Asm.io(Asm.HLT, 1));
            x.set(sc, INA);
            x.set(sc + 1, Asm.io(Asm.HLT, 2));
            int p = x.state(2);
            Edge.step("served " + sc, x, "A=1 served=1 latest=" + sc + " " + sc + ".asks=0");
            Edge.step("once", x, "P=" + (p + 1));
            x.set(p + 1, Asm.stf(sc));
            Edge.step("STF asks again", x, "held=1 P=" + (p + 2) + " " + sc + ".asks=1");
            Edge.step("HELD OFF", x, "held=0 P=" + (p + 3));
            Edge.step("served again", x, "A=2 served=2 " + sc + ".asks=0");
        }
    }

    // "(its PAGE is 0)", whatever P is.
    private static void interruptPageIs0() {
        for (int p : new int[] {1023, 1024, 2048, 3072, 4095, 4096, 32767}) {
            OctalHouse x = Edge.asking(8);
            x.set(8, Asm.mem(Asm.LDA, 300) | Asm.HERE);
            x.set(300, 10);
            x.set(1324, 11);
            x.set(2348, 12);
            x.set(3372, 13);
            x.go(p);
            Edge.step("P is " + p, x, "A=10 served=1 latest=8 8.asks=0");
        }
    }

    // "Else the INSTRUCTION is the word at P (its PAGE is P's: bits 14 .. 10), and P is 1 more."
    private static void pageIsThatOfP() {
        for (int p : new int[] {64, 1022, 1023, 1024, 1025, 2047, 2048, 3071, 3072, 4094, 4095}) {
            OctalHouse x = new OctalHouse();
            for (int page = 0; page < 4; page++) {
                x.set(1024 * page + 300, 10 + page);
            }
            x.set(p, Asm.mem(Asm.LDA, 300) | Asm.HERE);
            x.go(p);
            Edge.step("in the PAGE, at " + p, x, "A=" + (10 + p / 1024) + " P=" + (p + 1));
            x.set(p, Asm.mem(Asm.LDB, 300));
            x.go(p);
            Edge.step("in page 0, at " + p, x, "B=10 P=" + (p + 1));
        }
    }

    // "(reading one more word at P, where it says so, P is 1 more then)"
    private static void oneMoreWordAtP() {
        for (int p : new int[] {64, 1023, 4093, 4094}) {
            OctalHouse x = new OctalHouse();
            x.set(p, Asm.DLD);
            x.set(p + 1, 500);
            Asm.load(x, 500, 7, 8);
            x.go(p);
            Edge.step("DLD at " + p, x, "A=7 B=8 P=" + (p + 2));
        }
        OctalHouse x = new OctalHouse();
        x.set(4095, Asm.DST);
        Asm.load(x, 0, 7, 8);
        x.go(4095);
        Edge.step("its word is above MEMORY: 0", x, "P=4097");
        int[][] cases = {{32766, 32767}, {32767, 0}, {4095, 4096}, {4096, 4097}};
        for (int[] one : cases) {
            OctalHouse y = Edge.asking(8);
            y.set(8, Asm.DLD);
            y.set(4095, 500);
            Asm.load(y, 500, 7, 8);
            y.go(one[0]);
            String loaded = one[0] == 4095 ? "A=7 B=8 " : "";
            Edge.step("an interrupt's word at " + one[0], y, loaded + "served=1 latest=8 8.asks=0 P=" + one[1]);
        }
    }

    /** A chain at 200: an address with bit 15 that is put for so many times ends in 600. */
    private static void chain(OctalHouse x, int times) {
        for (int i = 0; i < times - 1; i++) {
            x.set(200 + i, 0x8000 | 201 + i);
        }
        x.set(200 + times - 1, 600);
    }

    // "while bit 15 of it is 1, it becomes the word at its other 15 bits; the 33rd time the machine is HALTED by itself (code 64)"
    private static void indirectionsTo32() {
        for (int times : new int[] {1, 2, 31, 32, 33, 34}) {
            OctalHouse x = Asm.with(Asm.mem(Asm.LDA, 200) | Asm.INDIRECT);
            chain(x, times);
            x.set(600, 77);
            Edge.step(times + " times", x, "P=65 " + (times <= 32 ? "A=77" : "halted=1 code=64"));
            OctalHouse y = Asm.with(Asm.DLD, 0x8000 | 200);
            chain(y, times);
            Asm.load(y, 600, 77, 78);
            Edge.step(times + " times behind DLD", y, "P=66 " + (times <= 32 ? "A=77 B=78" : "halted=1 code=64"));
        }
        OctalHouse none = Asm.with(Asm.mem(Asm.LDA, 600), Asm.DLD, 600);
        Asm.load(none, 600, 77, 78);
        Edge.step("no time", none, "P=65 A=77");
        Edge.step("no time behind DLD", none, "P=67 B=78");
    }

    // "and the INSTRUCTION does nothing else"
    private static void indirectionHaltDoesNothingElse() {
        for (int op = 2; op <= 15; op++) {
            for (int times : new int[] {33, 400}) {
                OctalHouse x = Asm.with(Asm.mem(op, 200) | Asm.INDIRECT, NOTHING);
                chain(x, times);
                x.set(0, 0xFFFF);
                x.set(1, 0x7FFF);
                x.set(600, 0xFFFF);
                Edge.step("op " + op + ", " + times + " times", x, "P=65 halted=1 code=64");
                x.go(-1);
                Edge.step("it goes on behind it", x, "P=66");
            }
        }
        for (int word : new int[] {Asm.MPY, Asm.DIV, Asm.DLD, Asm.DST}) {
            OctalHouse x = Asm.with(Asm.stf(1), word, 0x8000 | 200, NOTHING);
            x.set(200, 0x8000 | 200);
            x.set(0, 6);
            x.set(1, 7);
            x.run(1);
            Edge.step("the word " + word, x, "P=67 held=0 halted=1 code=64");
        }
        OctalHouse served = Edge.asking(8);
        served.set(8, Asm.mem(Asm.JSB, 200) | Asm.INDIRECT);
        served.set(200, 0x8000 | 200);
        Edge.step("as an interrupt's INSTRUCTION", served, "halted=1 code=64 served=1 latest=8 8.asks=0");
    }

    // "An INDIRECT address", whose words are above 4095: they are 0, so that it ends there.
    private static void indirectionsAboveMemory() {
        for (int m : new int[] {4095, 4096, 32767}) {
            OctalHouse x = Asm.with(Asm.mem(Asm.LDB, 200) | Asm.INDIRECT);
            x.set(200, 0x8000 | m);
            x.set(4095, 600);
            x.set(600, 77);
            x.set(0, 5);
            Edge.step("through " + m, x, "P=65 B=" + (m == 4095 ? 77 : 5));
        }
    }

    // "it becomes the word at its other 15 bits", where these are 0 or 1: A and B.
    private static void indirectionsThroughA() {
        OctalHouse x = Asm.with(Asm.mem(Asm.LDA, 0) | Asm.INDIRECT, Asm.mem(Asm.STA, 1) | Asm.INDIRECT, Asm.mem(Asm.LDA, 0) | Asm.INDIRECT);
        x.set(0, 0x8001);
        x.set(1, 600);
        x.set(600, 0x8000);
        Edge.step("through A and B", x, "P=65 A=32768");
        Edge.step("through B", x, "P=66 [600]=32768");
        Edge.step("A is its own address", x, "P=67 halted=1 code=64");
    }
}
