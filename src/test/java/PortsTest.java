/** Select codes: flags, controls, devices, the chain of priority, the channels. */
public final class PortsTest {
    public static void main(String[] args) {
        flags();
        heldOff();
        halts();
        tellAndTake();
        channelRegisters();
        controls();
        deviceTiming();
        interrupts();
        priority();
        interruptInstruction();
        channelIn();
        channelOut();
        channelEdges();
        twoChannels();
        Check.end("PortsTest");
    }

    private static void bits(OctalHouse x, int sc, int control, int flag, int asks) {
        Check.due("CONTROL of " + sc, x.code(sc, 0), control);
        Check.due("FLAG of " + sc, x.code(sc, 1), flag);
        Check.due("ASKS of " + sc, x.code(sc, 2), asks);
    }

    private static void flags() {
        for (int sc = 0; sc < 64; sc++) {
            boolean has = sc <= 1 || sc >= 6 && sc <= 11;
            OctalHouse x = Asm.with(Asm.stf(sc), Asm.io(Asm.SFS, sc), 0, Asm.io(Asm.SFC, sc), 0, 0);
            x.run(2);
            Check.due("SFS " + sc, x.state(2), has ? 67 : 66);
            x.go(67);
            x.run(1);
            Check.due("SFC " + sc, x.state(2), has ? 68 : 69);
            OctalHouse y = Asm.with(Asm.stf(sc), Asm.clf(sc), Asm.io(Asm.SFS, sc) | Asm.CLEAR, Asm.io(Asm.SFC, sc), 0, 0);
            y.run(3);
            Check.due("SFS after CLF " + sc, y.state(2), 67);
            y.run(1);
            Check.due("SFC after CLF " + sc, y.state(2), 69);
            if (sc >= 6 && sc <= 11) {
                bits(x, sc, 0, 1, 1);
                bits(y, sc, 0, 0, 0);
            }
        }
        Check.due("STF 0 is on", Asm.ran(0, 0, Asm.stf(0)).state(5), 1);
        Check.due("CLF 0 is off", Asm.ran(0, 0, Asm.stf(0), Asm.clf(0)).state(5), 0);
        Check.due("STF 1 is O", Asm.ran(0, 0, Asm.stf(1)).state(4), 1);
        Check.due("SFS with C leaves FLAG", Asm.ran(0, 0, Asm.stf(1), Asm.io(Asm.SFS, 1) | Asm.CLEAR).state(4), 1);
        Check.due("SFC with C leaves FLAG", Asm.ran(0, 0, Asm.stf(1), Asm.io(Asm.SFC, 1) | Asm.CLEAR).state(4), 1);
        for (int kind : new int[] {Asm.HLT, Asm.MI, Asm.LI, Asm.OT, Asm.CTL}) {
            Check.due("C besides " + kind, Asm.ran(0, 0, Asm.stf(9), Asm.io(kind, 9) | Asm.CLEAR).code(9, 1), 0);
            Check.due("no C besides " + kind, Asm.ran(0, 0, Asm.stf(9), Asm.io(kind, 9)).code(9, 1), 1);
        }
    }

    private static void heldOff() {
        for (int sc : new int[] {0, 1, 2, 4, 6, 8, 11, 12, 63}) {
            for (int kind = 0; kind < 8; kind++) {
                boolean always = kind == Asm.FLG || kind == Asm.CTL;
                boolean skips = kind == Asm.SFC || kind == Asm.SFS;
                Check.due("HELD OFF by " + kind + " of " + sc, Asm.ran(0, 0, Asm.io(kind, sc)).state(6), always ? 1 : 0);
                Check.due("HELD OFF by it with C", Asm.ran(0, 0, Asm.io(kind, sc) | Asm.CLEAR).state(6), skips ? 0 : 1);
            }
        }
    }

    private static void halts() {
        for (int sc = 0; sc < 64; sc++) {
            OctalHouse x = Asm.with(Asm.io(Asm.HLT, sc) | (sc & 1) * Asm.ON_B);
            Check.due("one TURN", x.run(5), 1);
            Check.due("HALTED", x.state(7), 1);
            Check.due("code", x.state(8), sc);
            Check.due("P", x.state(2), 65);
        }
    }

    private static void tellAndTake() {
        for (int sc = 0; sc < 64; sc++) {
            OctalHouse x = Asm.with(Asm.stc(2), Asm.stc(3), Asm.io(Asm.OT, sc), Asm.io(Asm.LI, sc) | Asm.ON_B);
            x.switches(0x0F0F);
            x.set(0, 0xA5A5);
            x.set(1, 0x1111);
            x.run(4);
            boolean keeps = sc == 2 || sc == 3 || sc >= 8 && sc <= 11;
            int told = sc == 1 ? 0x0F0F : keeps ? 0xA5A5 : 0;
            Check.due("LIB " + sc, x.state(1), told);
            Check.due("lamps by " + sc, x.state(9), sc == 1 ? 0xA5A5 : 0);
            Check.due("first word by " + sc, x.code(6, 7), sc == 6 ? 0xA5A5 : 0);
            Check.due("first word by " + sc, x.code(7, 7), sc == 7 ? 0xA5A5 : 0);
            x.set(0, 0x5050);
            x.set(100, Asm.io(Asm.MI, sc));
            x.go(100);
            x.run(1);
            Check.due("MIA " + sc, x.state(0), 0x5050 | told);
        }
        OctalHouse y = Asm.ran(3, 0xFFFF, Asm.io(Asm.OT, 1) | Asm.ON_B);
        Check.due("OTB to the lamps", y.state(9), 0xFFFF);
    }

    private static void channelRegisters() {
        for (int channel = 0; channel < 2; channel++) {
            int sc = 2 + channel;
            OctalHouse x = Asm.with(Asm.io(Asm.OT, sc), Asm.stc(sc), Asm.io(Asm.OT, sc) | Asm.ON_B, Asm.io(Asm.OT, sc) | Asm.ON_B, Asm.clc(sc), Asm.io(Asm.OT, sc));
            x.set(0, 0x8123);
            x.set(1, 0xFFF0);
            x.run(1);
            Check.due("at first ADDRESS", x.code(6 + channel, 4), 0x0123);
            Check.due("it goes in", x.code(6 + channel, 6), 1);
            Check.due("COUNT", x.code(6 + channel, 5), 0);
            x.run(3);
            Check.due("COUNT", x.code(6 + channel, 5), 0xFFF0);
            Check.due("ADDRESS stays", x.code(6 + channel, 4), 0x0123);
            x.set(0, 0x7FFF);
            x.run(2);
            Check.due("ADDRESS again", x.code(6 + channel, 4), 0x7FFF);
            Check.due("it goes out", x.code(6 + channel, 6), 0);
            Check.due("COUNT stays", x.code(6 + channel, 5), 0xFFF0);
            Check.due("the other channel", x.code(7 - channel, 4) + x.code(7 - channel, 5), 0);
        }
    }

    private static void controls() {
        for (int sc = 6; sc <= 11; sc++) {
            OctalHouse x = Asm.with(Asm.stc(sc), Asm.clc(sc));
            if (sc >= 8) {
                x.device(sc - 8, true, 50);
            }
            x.run(1);
            bits(x, sc, 1, 0, 0);
            Check.due("ACTIVE or BUSY", x.code(sc, 3), sc >= 8 ? 50 : 1);
            x.run(1);
            bits(x, sc, 0, 0, 0);
            Check.due("not ACTIVE, but BUSY", x.code(sc, 3), sc >= 8 ? 49 : 0);
        }
        OctalHouse y = Asm.with(Asm.stc(6), Asm.stc(7), Asm.stc(8), Asm.stc(9), Asm.stc(10), Asm.stc(11), Asm.stf(7), Asm.stf(0), Asm.clf(7), Asm.stc(0), Asm.clc(0), Asm.clc(0) | Asm.CLEAR);
        y.device(2, true, 60);
        y.run(10);
        Check.due("STC 0 leaves CONTROL", y.code(6, 0), 1);
        y.run(1);
        for (int sc = 6; sc <= 11; sc++) {
            Check.due("CLC 0: CONTROL of " + sc, y.code(sc, 0), 0);
        }
        Check.due("CLC 0: ACTIVE", y.code(6, 3) + y.code(7, 3), 0);
        Check.due("CLC 0: BUSY stays", y.code(10, 3), 54);
        Check.due("CLC 0: still on", y.state(5), 1);
        y.run(1);
        Check.due("CLC 0 with C: off", y.state(5), 0);
    }

    private static void deviceTiming() {
        OctalHouse x = Asm.with(Asm.stc(9));
        x.device(1, true, 3);
        x.give(1, 70000);
        x.run(1);
        Check.due("BUSY", x.code(9, 3), 3);
        x.run(2);
        Check.due("BUSY", x.code(9, 3), 1);
        Check.due("TAPE", x.code(9, 5), 1);
        bits(x, 9, 1, 0, 0);
        x.run(1);
        Check.due("BUSY", x.code(9, 3), 0);
        Check.due("BUFFER", x.code(9, 4), 70000 & 65535);
        Check.due("TAPE", x.code(9, 5), 0);
        bits(x, 9, 1, 1, 1);
        OctalHouse y = Asm.with(Asm.io(Asm.OT, 9), Asm.stc(9), Asm.stc(9));
        y.device(1, false, 2);
        y.set(0, 321);
        y.run(4);
        Check.due("STARTED again", y.code(9, 3), 1);
        Check.due("not OUT yet", y.out(1, 0), -1);
        y.run(1);
        Check.due("OUT", y.out(1, 0), 321);
        Check.due("how many", y.code(9, 8), 1);
        bits(y, 9, 1, 1, 1);
        OctalHouse z = Asm.with(Asm.stc(9), Asm.io(Asm.HLT, 1));
        z.device(1, true, 2);
        z.run(50);
        Check.due("a halted machine leaves BUSY", z.code(9, 3), 1);
    }

    private static void interrupts() {
        OctalHouse x = Asm.with(Asm.stc(8), Asm.stf(0), Asm.clf(12), 0, 0);
        x.set(8, Asm.mem(Asm.JSB, 300));
        x.run(3);
        Check.due("HELD OFF by STF and CLF", x.state(11), 0);
        bits(x, 8, 1, 1, 1);
        x.run(1);
        Check.due("still held by CLF", x.state(11), 0);
        Check.due("P", x.state(2), 68);
        x.run(1);
        Check.due("served", x.state(11), 1);
        Check.due("SC", x.state(12), 8);
        Check.due("P", x.state(2), 301);
        Check.due("the word", x.word(300), 68);
        bits(x, 8, 1, 1, 0);
        x.run(10);
        Check.due("it does not ask again", x.state(11), 1);
        OctalHouse off = Asm.with(Asm.stc(8), 0, 0, 0);
        off.run(4);
        Check.due("off: none is served", off.state(11), 0);
        OctalHouse noControl = Asm.with(Asm.stf(8), Asm.stf(0), 0, 0, 0);
        noControl.run(5);
        Check.due("no CONTROL: none is served", noControl.state(11), 0);
    }

    private static void priority() {
        OctalHouse x = Asm.with(Asm.stc(10), Asm.stc(8), Asm.stc(6), Asm.stf(6), Asm.stf(0), 0, 0, Asm.clf(6), 0, Asm.clf(8), 0, Asm.clf(10));
        x.run(6);
        Check.due("none yet", x.state(11), 0);
        x.run(1);
        Check.due("the lowest first", x.state(12), 6);
        Check.due("P stays", x.state(2), 70);
        x.run(1);
        Check.due("6 keeps the others waiting", x.state(11), 1);
        x.run(2);
        Check.due("CLF holds off", x.state(11), 1);
        x.run(1);
        Check.due("then 8", x.state(12), 8);
        bits(x, 8, 1, 1, 0);
        bits(x, 10, 1, 1, 1);
        x.run(3);
        Check.due("then 10", x.state(12), 10);
        Check.due("served", x.state(11), 3);
    }

    private static void interruptInstruction() {
        OctalHouse x = Asm.with(0);
        x.set(1024 + 64, Asm.stc(11));
        x.set(1024 + 65, Asm.stf(0));
        x.set(1024 + 66, 0);
        x.set(11, Asm.mem(Asm.LDA, 4) | Asm.HERE);
        x.set(4, 55);
        x.set(1024 + 4, 66);
        x.go(1024 + 64);
        x.run(4);
        Check.due("its PAGE is 0", x.state(0), 55);
        Check.due("P stays", x.state(2), 1024 + 67);
        OctalHouse y = Asm.with(Asm.stc(11), Asm.stf(0), 0, 100);
        y.set(11, Asm.MPY);
        y.set(0, 6);
        y.set(100, 7);
        y.run(4);
        Check.due("its second word is at P", y.state(0), 42);
        Check.due("P is behind it", y.state(2), 68);
    }

    /** Channel 0 with A to its first word, then ADDRESS and COUNT from 101 and 102; the device is started. */
    private static OctalHouse channel(int channel, int sc, int first, int address, int count) {
        OctalHouse x = Asm.with(Asm.mem(Asm.LDA, 100), Asm.io(Asm.OT, 6 + channel), Asm.mem(Asm.LDA, 101), Asm.io(Asm.OT, 2 + channel),
            Asm.stc(2 + channel), Asm.mem(Asm.LDA, 102), Asm.io(Asm.OT, 2 + channel), Asm.stc(sc), Asm.stc(6 + channel), Asm.mem(Asm.JMP, 73));
        Asm.load(x, 100, first, address, count);
        return x;
    }

    private static void channelIn() {
        OctalHouse x = channel(1, 8, 0xA008, 0x8000 | 500, 65536 - 3);
        x.device(0, true, 4);
        x.give(0, 10);
        x.give(0, 20);
        x.give(0, 30);
        x.give(0, 40);
        x.run(9);
        Check.due("ACTIVE", x.code(7, 3), 1);
        x.run(3);
        Check.due("the first word has come", x.word(500), 10);
        Check.due("moved", x.code(7, 8), 1);
        Check.due("ADDRESS", x.code(7, 4), 501);
        Check.due("COUNT", x.code(7, 5), 65534);
        Check.due("STARTED", x.code(8, 3), 4);
        bits(x, 8, 1, 0, 0);
        bits(x, 7, 1, 0, 0);
        x.run(8);
        Check.due("the third", x.word(502), 30);
        Check.due("not ACTIVE", x.code(7, 3), 0);
        bits(x, 7, 1, 1, 1);
        bits(x, 8, 0, 0, 0);
        Check.due("not STARTED", x.code(8, 3), 0);
        Check.due("TAPE", x.code(8, 5), 1);
        x.run(50);
        Check.due("no more", x.code(7, 8), 3);
        OctalHouse y = channel(0, 8, 0x8008, 0x8000 | 500, 65535);
        y.run(20);
        bits(y, 8, 1, 0, 0);
        bits(y, 6, 1, 1, 1);
    }

    private static void channelOut() {
        OctalHouse x = channel(0, 11, 0x800B, 600, 65536 - 3);
        x.device(3, false, 1);
        Asm.load(x, 600, 7, 8, 9);
        x.run(40);
        Check.due("what stood in the BUFFER", x.out(3, 0), 0);
        Check.due("the first", x.out(3, 1), 7);
        Check.due("the second", x.out(3, 2), 8);
        Check.due("the last stays in the BUFFER", x.out(3, 3), -1);
        Check.due("BUFFER", x.code(11, 4), 9);
        Check.due("how many", x.code(11, 8), 3);
        Check.due("MEMORY stays", x.word(601), 8);
    }

    private static void channelEdges() {
        OctalHouse x = channel(0, 8, 0x0008, 0x8000 | 500, 65536 - 3);
        x.give(0, 10);
        x.give(0, 20);
        x.run(60);
        Check.due("bit 15 is 0: one word", x.code(6, 8), 1);
        Check.due("bit 15 is 0: not STARTED", x.code(8, 5), 1);
        Check.due("still ACTIVE", x.code(6, 3), 1);
        for (int sc : new int[] {0, 6, 7, 12, 63}) {
            OctalHouse y = channel(0, 8, 0x8000 | sc, 0x8000 | 500, 65536 - 3);
            y.run(60);
            Check.due("no DEVICE at " + sc, y.code(6, 8), 0);
        }
        OctalHouse z = channel(0, 8, 0x8008, 0xFFFF, 0);
        z.give(0, 5);
        z.give(0, 55);
        z.give(0, 555);
        z.run(10);
        Check.due("beyond MEMORY it is lost", z.code(6, 8), 1);
        Check.due("ADDRESS goes round", z.code(6, 4), 0);
        Check.due("COUNT from 0", z.code(6, 5), 1);
        z.run(1);
        Check.due("then to A", z.state(0), 55);
        z.run(1);
        Check.due("then to B", z.state(1), 555);
        OctalHouse w = channel(0, 8, 0xFFC8, 0x8000 | 500, 65535);
        w.run(20);
        Check.due("the first word is kept whole", w.code(6, 7), 0xFFC8);
        Check.due("other bits do nothing", w.code(6, 8), 1);
    }

    private static void twoChannels() {
        OctalHouse x = channel(0, 8, 0x8008, 0x8000 | 500, 65536 - 2);
        Asm.load(x, 200, Asm.io(Asm.OT, 7), Asm.io(Asm.OT, 3) | Asm.ON_B, Asm.stc(7), Asm.mem(Asm.JMP, 64));
        x.device(0, true, 5);
        x.set(0, 0x8008);
        x.set(1, 0x8000 | 700);
        for (int i = 1; i <= 4; i++) {
            x.give(0, i);
        }
        x.go(200);
        x.run(60);
        Check.due("channel 0 comes first", x.word(500), 1);
        Check.due("and again", x.word(501), 2);
        Check.due("channel 1 has none", x.code(7, 8), 0);
        OctalHouse y = channel(0, 8, 0x8008, 0x8000 | 500, 65535);
        Asm.load(y, 200, Asm.io(Asm.OT, 7), Asm.io(Asm.OT, 3) | Asm.ON_B, Asm.stc(7), Asm.stc(9), Asm.stf(9), Asm.mem(Asm.JMP, 64));
        y.set(0, 0x8009);
        y.set(1, 0x8000 | 700);
        y.give(1, 99);
        y.go(200);
        y.run(60);
        Check.due("another device's words go to channel 1", y.word(700), 99);
        Check.due("and go on", y.code(7, 8) > 3 ? 1 : 0, 1);
    }
}
