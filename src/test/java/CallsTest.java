/** Promises 1 to 12, as calls: what a new object tells, edges, wrong inputs. */
public final class CallsTest {
    private static final int[] WILD = {Integer.MIN_VALUE, Integer.MIN_VALUE + 5, -65536, -2, -1, Integer.MAX_VALUE};

    public static void main(String[] args) {
        newObject();
        run();
        go();
        words();
        stateAndSwitches();
        device();
        give();
        out();
        code();
        sum();
        Check.end("CallsTest");
    }

    private static void newObject() {
        OctalHouse x = new OctalHouse();
        for (int what = 0; what <= 12; what++) {
            Check.due("new: state(" + what + ")", x.state(what), what == 8 || what == 12 ? -1 : 0);
        }
        for (int address = 0; address < 4096; address++) {
            Check.due("new: word(" + address + ")", x.word(address), 0);
        }
        for (int sc = 6; sc <= 11; sc++) {
            for (int what = 0; what <= 8; what++) {
                boolean one = sc >= 8 && (what == 6 || what == 7);
                Check.due("new: code(" + sc + ", " + what + ")", x.code(sc, what), one ? 1 : 0);
            }
        }
        for (int device = 0; device < 4; device++) {
            Check.due("new: out", x.out(device, 0), -1);
        }
        Check.due("new: sum", x.sum(), 0);
    }

    private static void run() {
        OctalHouse x = new OctalHouse();
        Check.due("run(0)", x.run(0), 0);
        Check.due("run(2000)", x.run(2000), 2000);
        Check.due("P", x.state(2), 2000);
        Check.due("turns", x.state(10), 2000);
        Check.fails("run(2001)", IllegalArgumentException.class, () -> x.run(2001));
        Check.fails("run(-1)", IllegalArgumentException.class, () -> x.run(-1));
        for (int n : WILD) {
            Check.fails("run(" + n + ")", IllegalArgumentException.class, () -> x.run(n));
        }
        Check.due("turns after wrong runs", x.state(10), 2000);
        x.set(2003, Asm.io(Asm.HLT, 63));
        Check.due("run till halted", x.run(100), 4);
        Check.due("halted", x.state(7), 1);
        Check.due("code", x.state(8), 63);
        Check.due("run while halted", x.run(100), 0);
        Check.due("turns", x.state(10), 2004);
        Check.fails("run(2001) while halted", IllegalArgumentException.class, () -> x.run(2001));
    }

    private static void go() {
        OctalHouse x = Asm.with(Asm.io(Asm.HLT, 5));
        x.run(1);
        x.go(-1);
        Check.due("go(-1): not halted", x.state(7), 0);
        Check.due("go(-1): P stays", x.state(2), 65);
        Check.due("go: the code stays", x.state(8), 5);
        x.go(32767);
        Check.due("go(32767)", x.state(2), 32767);
        x.run(1);
        Check.due("P goes round", x.state(2), 0);
        x.go(32768 + 7);
        Check.due("go(32775)", x.state(2), 7);
        x.go(-2);
        Check.due("go(-2)", x.state(2), 32766);
        x.go(Integer.MIN_VALUE);
        Check.due("go(MIN)", x.state(2), 0);
        OctalHouse held = Asm.with(Asm.stf(0));
        held.run(1);
        held.go(64);
        Check.due("go leaves HELD OFF", held.state(6), 1);
    }

    private static void words() {
        OctalHouse x = new OctalHouse();
        x.set(4095, 65535 + 65536);
        Check.due("word(4095)", x.word(4095), 65535);
        x.set(0, -1);
        x.set(1, 65536 + 3);
        Check.due("A", x.state(0), 65535);
        Check.due("B", x.state(1), 3);
        Check.due("word(0)", x.word(0), 65535);
        Check.due("word(1)", x.word(1), 3);
        Check.fails("word(4096)", IndexOutOfBoundsException.class, () -> x.word(4096));
        Check.fails("set(4096, 1)", IndexOutOfBoundsException.class, () -> x.set(4096, 1));
        for (int address : WILD) {
            Check.fails("word(" + address + ")", IndexOutOfBoundsException.class, () -> x.word(address));
            Check.fails("set(" + address + ", 1)", IndexOutOfBoundsException.class, () -> x.set(address, 1));
        }
    }

    private static void stateAndSwitches() {
        OctalHouse x = Asm.with(Asm.io(Asm.LI, 1), Asm.io(Asm.OT, 1), Asm.clf(0));
        x.switches(-2);
        x.run(2);
        Check.due("A from the switches", x.state(0), 65534);
        Check.due("the lamps", x.state(9), 65534);
        Check.due("HELD OFF", x.state(6), 0);
        x.run(1);
        Check.due("HELD OFF after CLF", x.state(6), 1);
        Check.due("state(13)", x.state(13), -1);
        for (int what : WILD) {
            Check.due("state(" + what + ")", x.state(what), -1);
        }
    }

    private static void device() {
        OctalHouse x = Asm.with(Asm.io(Asm.OT, 8), Asm.stc(8));
        x.set(0, 99);
        x.device(0, false, 100);
        x.give(0, 5);
        x.run(2);
        Check.due("BUSY", x.code(8, 3), 100);
        Check.due("BUFFER", x.code(8, 4), 99);
        x.device(0, true, 1);
        Check.due("BUSY then", x.code(8, 3), 0);
        Check.due("BUFFER then", x.code(8, 4), 0);
        Check.due("TAPE then", x.code(8, 5), 1);
        Check.due("CONTROL then", x.code(8, 0), 1);
        Check.due("in", x.code(8, 6), 1);
        Check.due("DELAY", x.code(8, 7), 1);
        x.run(200);
        Check.due("no FLAG comes", x.code(8, 1), 0);
        for (int delay : new int[] {0, 101, Integer.MIN_VALUE, -1, Integer.MAX_VALUE}) {
            Check.fails("delay " + delay, IllegalArgumentException.class, () -> x.device(3, true, delay));
            Check.fails("device before delay", IndexOutOfBoundsException.class, () -> x.device(4, true, delay));
        }
        Check.due("DELAY after wrong ones", x.code(11, 7), 1);
        Check.fails("device 4", IndexOutOfBoundsException.class, () -> x.device(4, false, 5));
        for (int d : WILD) {
            Check.fails("device " + d, IndexOutOfBoundsException.class, () -> x.device(d, false, 5));
        }
    }

    private static void give() {
        OctalHouse x = Asm.with(Asm.stc(11), 0, Asm.stc(11), 0);
        for (int i = 1; i <= 100; i++) {
            Check.due("give " + i, x.give(3, i), i);
        }
        Check.fails("give the 101st", IllegalStateException.class, () -> x.give(3, 1));
        Check.due("TAPE", x.code(11, 5), 100);
        Check.due("another TAPE", x.code(10, 5), 0);
        x.run(2);
        Check.due("the first word", x.code(11, 4), 1);
        Check.due("give again", x.give(3, -5), 100);
        x.run(2);
        Check.due("the second word", x.code(11, 4), 2);
        for (int i = 3; i <= 100; i++) {
            x.go(64);
            x.run(2);
            Check.due("word " + i, x.code(11, 4), i);
        }
        x.go(64);
        x.run(2);
        Check.due("the word that was given later has 16 bits", x.code(11, 4), 65531);
        x.go(64);
        x.run(2);
        Check.due("no word is 0", x.code(11, 4), 0);
        Check.due("FLAG all the same", x.code(11, 1), 1);
        Check.fails("give to 4", IndexOutOfBoundsException.class, () -> x.give(4, 1));
        for (int d : WILD) {
            Check.fails("give to " + d, IndexOutOfBoundsException.class, () -> x.give(d, 1));
        }
    }

    private static void out() {
        OctalHouse x = Asm.with(Asm.io(Asm.OT, 10), Asm.stc(10), Asm.mem(Asm.ISZ, 0), Asm.mem(Asm.JMP, 64));
        x.device(2, false, 1);
        x.set(0, 1000);
        x.run(1000);
        Check.due("the first", x.out(2, 0), 1000);
        Check.due("the second", x.out(2, 1), 1001);
        Check.due("the 200th", x.out(2, 199), 1199);
        Check.due("the 201st is not kept", x.out(2, 200), -1);
        Check.due("but counted", x.code(10, 8), 250);
        Check.due("another device", x.out(1, 0), -1);
        for (int i : WILD) {
            Check.due("out(2, " + i + ")", x.out(2, i), -1);
            Check.fails("out(" + i + ", 0)", IndexOutOfBoundsException.class, () -> x.out(i, 0));
        }
        Check.fails("out(4, 0)", IndexOutOfBoundsException.class, () -> x.out(4, 0));
    }

    private static void code() {
        OctalHouse x = new OctalHouse();
        for (int sc = -70; sc < 100; sc++) {
            for (int what = -3; what < 12; what++) {
                boolean told = sc >= 6 && sc <= 11 && what >= 0 && what <= 8;
                if (!told) {
                    Check.due("code(" + sc + ", " + what + ")", x.code(sc, what), -1);
                }
            }
        }
        for (int wild : WILD) {
            Check.due("code(" + wild + ", 0)", x.code(wild, 0), -1);
            Check.due("code(6, " + wild + ")", x.code(6, wild), -1);
            Check.due("code(8, " + wild + ")", x.code(8, wild), -1);
        }
    }

    private static void sum() {
        OctalHouse x = new OctalHouse();
        x.set(4095, 7);
        Check.due("the last word", x.sum(), 7);
        x.set(4094, 65535);
        Check.due("the last two", x.sum(), 31 * 65535 + 7);
        x.set(0, 3);
        x.set(1, 4);
        int due = 0;
        for (int address = 0; address < 4096; address++) {
            due = 31 * due + x.word(address);
        }
        Check.due("all, going round", x.sum(), due);
    }
}
