/** Each sentence of promises 1 to 12 that names a boundary: at it, and one step to each side. */
public final class EdgesOfCallsTest {
    private static final Class<IllegalArgumentException> ARGUMENT = IllegalArgumentException.class;
    private static final Class<IndexOutOfBoundsException> INDEX = IndexOutOfBoundsException.class;
    private static final Class<IllegalStateException> STATE = IllegalStateException.class;
    private static final int[] NO_DEVICES = {-1, 4, 5, 8, 11, -4, Edge.MIN, Edge.MAX};
    private static final int[] NO_ADDRESSES = {-1, 4096, 4097, 8192, 32767, 65536, -4096, Edge.MIN, Edge.MAX};
    private static final int[][] WORDS = {
        {0, 0}, {1, 1}, {32767, 32767}, {32768, 32768}, {65534, 65534}, {65535, 65535}, {65536, 0}, {65537, 1}, {131071, 65535},
        {-1, 65535}, {-2, 65534}, {-32768, 32768}, {-65535, 1}, {-65536, 0}, {-65537, 65535}, {Edge.MIN, 0}, {Edge.MAX, 65535},
    };

    public static void main(String[] args) {
        objectsAre0AtFirst();
        objectsAreOnTheirOwn();
        runTakes0To2000();
        runRefusesOthers();
        runEndsWhenHalted();
        runOfAHaltedMachine();
        goEndsTheHalt();
        goTakes15Bits();
        goKeepsPByNone();
        wordTakes0To4095();
        setTakes0To4095();
        setTakes16Bits();
        stateTells0To12();
        stateTellsTheLatestHalt();
        stateCountsTurns();
        stateCountsInterrupts();
        switchesTake16Bits();
        deviceTakes0To3();
        deviceTakesDelay1To100();
        deviceIsNotBusyThen();
        deviceLeavesTheRest();
        giveTakes0To3();
        giveRefusesThe101st();
        giveTakes16Bits();
        tapeGoesRound();
        outTakes0To3();
        outTellsWhatWent();
        outKeepsTheFirst200();
        codeTells6To11();
        codeTells0To8();
        sumGoesRound();
        sumTakesEachWord();
        objectsLast512Calls();
        Check.end("EdgesOfCallsTest");
    }

    // Promise 1: "All is 0; it is not HALTED." (Terms: "at first it takes in, 1"; promise 6: "(NONE)")
    private static void objectsAre0AtFirst() {
        OctalHouse x = new OctalHouse();
        for (int what = 0; what <= 12; what++) {
            Check.due("new: state(" + what + ")", x.state(what), what == 8 || what == 12 ? OctalHouse.NONE : 0);
        }
        for (int sc = 6; sc <= 11; sc++) {
            for (int what = 0; what <= 8; what++) {
                Check.due("new: code(" + sc + ", " + what + ")", x.code(sc, what), sc >= 8 && (what == 6 || what == 7) ? 1 : 0);
            }
        }
        for (int d = 0; d < 4; d++) {
            Check.due("new: out", x.out(d, 0), OctalHouse.NONE);
            Check.due("new: give", x.give(d, 0), 1);
        }
        Check.due("new: sum", x.sum(), 0);
        Check.due("new: it runs", x.run(1), 1);
        OctalHouse y = Asm.ran(9, 0, Asm.io(Asm.LI, 1));
        Check.due("new: the switches", y.state(0), 0);
        OctalHouse z = Asm.ran(0x8005, 0, Asm.io(Asm.OT, 2), Asm.io(Asm.OT, 3));
        Check.due("new: ADDRESS comes first, channel 0", z.code(6, 4) + z.code(6, 5), 5);
        Check.due("new: ADDRESS comes first, channel 1", z.code(7, 4) + z.code(7, 5), 5);
    }

    // Promise 1, of a second object: nothing of the first one is seen in it.
    private static void objectsAreOnTheirOwn() {
        OctalHouse x = Edge.asking(6, 11);
        OctalHouse y = new OctalHouse();
        x.give(3, 5);
        x.switches(7);
        x.set(4095, 1);
        Edge.changes("another object works", y, "", () -> x.run(5));
        Check.due("its word", y.word(4095), 0);
        Check.due("its sum", y.sum(), 0);
        Check.due("its TAPE", y.code(11, 5), 0);
    }

    // Promise 2: "n TURNS (0 .. 2,000) at most"
    private static void runTakes0To2000() {
        for (int n : new int[] {0, 1, 2, 1999, 2000}) {
            OctalHouse x = new OctalHouse();
            Edge.changes("run(" + n + ")", x, "P=" + n + " turns=" + n, () -> Check.due("run(" + n + ")", x.run(n), n));
        }
    }

    // Promise 2: "IllegalArgumentException: n."
    private static void runRefusesOthers() {
        for (int n : new int[] {-1, -2, 2001, 2002, Edge.MIN, Edge.MIN + 1, Edge.MAX}) {
            OctalHouse fresh = new OctalHouse();
            Edge.refused("run(" + n + ")", fresh, ARGUMENT, () -> fresh.run(n));
            OctalHouse x = Edge.asking(8);
            Edge.refused("run(" + n + ") with an interrupt due", x, ARGUMENT, () -> x.run(n));
            OctalHouse halted = Asm.ran(0, 0, Asm.io(Asm.HLT, 1));
            Edge.refused("run(" + n + ") while HALTED", halted, ARGUMENT, () -> halted.run(n));
        }
    }

    // Promise 2: "till it is HALTED: how many were done"
    private static void runEndsWhenHalted() {
        for (int before = 0; before <= 3; before++) {
            for (int n = 0; n <= 6; n++) {
                OctalHouse x = new OctalHouse();
                x.set(64 + before, Asm.io(Asm.HLT, 5));
                x.go(64);
                int due = Math.min(n, before + 1);
                int asked = n;
                String halt = n > before ? " halted=1 code=5" : "";
                Edge.changes(before + " before the halt", x, "P=" + (64 + due) + " turns=" + due + halt,
                    () -> Check.due("run(" + asked + ")", x.run(asked), due));
            }
        }
        for (int at : new int[] {1998, 1999, 2000}) {
            OctalHouse x = new OctalHouse();
            x.set(at, Asm.io(Asm.HLT, 5));
            Check.due("run(2000), a halt at " + at, x.run(2000), Math.min(at + 1, 2000));
            Check.due("HALTED, a halt at " + at, x.state(7), at < 2000 ? 1 : 0);
        }
    }

    // Promise 2, of a machine that is HALTED already.
    private static void runOfAHaltedMachine() {
        for (int n : new int[] {0, 1, 2000}) {
            OctalHouse x = Edge.asking(8);
            x.set(8, Asm.io(Asm.HLT, 9));
            x.run(1);
            Edge.changes("run(" + n + ") while HALTED", x, "", () -> Check.due("run(" + n + ")", x.run(n), 0));
        }
    }

    // Promise 3: "It is not HALTED any more"
    private static void goEndsTheHalt() {
        OctalHouse x = Asm.ran(0, 0, Asm.io(Asm.HLT, 5) | Asm.CLEAR);
        Edge.changes("go(64)", x, "halted=0 P=64", () -> x.go(64));
        Edge.changes("go(64) again", x, "", () -> x.go(64));
        Check.due("it halts again", x.run(9), 1);
        Edge.changes("go(NONE)", x, "halted=0", () -> x.go(OctalHouse.NONE));
        Check.due("it runs on", x.run(9), 9);
    }

    // Promise 3: "P becomes a number (its lowest 15 bits"
    private static void goTakes15Bits() {
        int[][] cases = {
            {0, 0}, {1, 1}, {4095, 4095}, {4096, 4096}, {32766, 32766}, {32767, 32767}, {32768, 0}, {32769, 1}, {65535, 32767}, {65536, 0},
            {-2, 32766}, {-3, 32765}, {-32768, 0}, {-32769, 32767}, {-65537, 32767}, {Edge.MIN, 0}, {Edge.MIN + 1, 1}, {Edge.MAX, 32767},
        };
        for (int[] one : cases) {
            OctalHouse x = new OctalHouse();
            x.run(77);
            Edge.changes("go(" + one[0] + ")", x, "P=" + one[1], () -> x.go(one[0]));
        }
    }

    // Promise 3: "NONE: stays"
    private static void goKeepsPByNone() {
        for (int p : new int[] {0, 1, 4095, 32766, 32767}) {
            OctalHouse x = new OctalHouse();
            x.go(p);
            Edge.changes("go(NONE) at " + p, x, "", () -> x.go(-1));
        }
    }

    // Promise 4: "The word at an address. IndexOutOfBoundsException: it is not 0 .. 4095."
    private static void wordTakes0To4095() {
        for (int address : new int[] {0, 1, 2, 4094, 4095}) {
            OctalHouse x = new OctalHouse();
            Check.due("word(" + address + ")", x.word(address), 0);
            x.set(address, 40000 + address);
            Check.due("word(" + address + ") then", x.word(address), 40000 + address);
        }
        for (int address : NO_ADDRESSES) {
            OctalHouse x = new OctalHouse();
            Edge.refused("word(" + address + ")", x, INDEX, () -> x.word(address));
        }
    }

    // Promise 5: "IndexOutOfBoundsException likewise."
    private static void setTakes0To4095() {
        for (int address : new int[] {0, 1, 2, 4094, 4095}) {
            OctalHouse x = new OctalHouse();
            String due = address == 0 ? "A=7" : address == 1 ? "B=7" : "[" + address + "]=7";
            Edge.changes("set(" + address + ", 7)", x, due, () -> x.set(address, 7));
        }
        for (int address : NO_ADDRESSES) {
            OctalHouse x = new OctalHouse();
            Edge.refused("set(" + address + ", 7)", x, INDEX, () -> x.set(address, 7));
        }
    }

    // Promise 5: "It becomes a number (its lowest 16 bits)."
    private static void setTakes16Bits() {
        for (int[] one : WORDS) {
            OctalHouse x = new OctalHouse();
            Edge.changes("set(100, " + one[0] + ")", x, "[100]=" + one[1], () -> x.set(100, one[0]));
            Edge.changes("set(0, " + one[0] + ")", x, "A=" + one[1], () -> x.set(0, one[0]));
            Edge.changes("set(1, " + one[0] + ")", x, "B=" + one[1], () -> x.set(1, one[0]));
        }
    }

    // Promise 6: "NONE for others." (each number tells its own thing, 13 and -1 tell none)
    private static void stateTells0To12() {
        OctalHouse x = Edge.asking(9);
        x.set(9, 0);
        x.run(1);
        Asm.load(x, 64, Asm.io(Asm.OT, 1), 0x04C0, Asm.stf(1), Asm.io(Asm.HLT, 33) | Asm.CLEAR);
        x.set(0, 50);
        x.set(1, 60);
        x.go(64);
        x.run(4);
        int[] due = {50, 60, 68, 1, 1, 1, 1, 1, 33, 50, 9, 1, 9};
        for (int what = 0; what < due.length; what++) {
            Check.due("state(" + what + ")", x.state(what), due[what]);
        }
        for (int what : new int[] {-1, -2, 13, 14, 64, 65536, Edge.MIN, Edge.MAX}) {
            Check.due("state(" + what + ")", x.state(what), OctalHouse.NONE);
        }
    }

    // Promise 6: "the code of the latest halt (NONE)"
    private static void stateTellsTheLatestHalt() {
        OctalHouse x = Asm.with(0, Asm.io(Asm.HLT, 0), Asm.io(Asm.HLT, 63), Asm.mem(Asm.LDA, 100) | Asm.INDIRECT, Asm.io(Asm.HLT, 1));
        x.set(100, 0x8000 | 100);
        x.run(1);
        Check.due("no halt yet", x.state(8), OctalHouse.NONE);
        int[] codes = {0, 63, 64, 1};
        for (int due : codes) {
            Check.due("to the next halt", x.run(5), 1);
            Check.due("the code", x.state(8), due);
            x.go(-1);
            Check.due("the code after go", x.state(8), due);
        }
    }

    // Promise 6: "TURNS done"
    private static void stateCountsTurns() {
        OctalHouse x = new OctalHouse();
        x.set(5, Asm.io(Asm.HLT, 0));
        x.run(0);
        Check.due("after run(0)", x.state(10), 0);
        x.run(5);
        Check.due("before the halt", x.state(10), 5);
        x.run(5);
        Check.due("with the halt", x.state(10), 6);
        x.run(5);
        Check.due("while HALTED", x.state(10), 6);
        x.go(0);
        Check.due("after go", x.state(10), 6);
        x.run(1);
        Check.due("and on", x.state(10), 7);
    }

    // Promise 6: "interrupts served, 12 the SC of the latest one (NONE)"
    private static void stateCountsInterrupts() {
        for (int sc = 6; sc <= 11; sc++) {
            OctalHouse x = Edge.asking(sc);
            Check.due("none yet", x.state(11), 0);
            Check.due("no SC yet", x.state(12), OctalHouse.NONE);
            x.run(1);
            Check.due("served " + sc, x.state(11), 1);
            Check.due("the SC " + sc, x.state(12), sc);
            x.run(1);
            Check.due("no second one of " + sc, x.state(11), 1);
            Check.due("the SC stays", x.state(12), sc);
        }
    }

    // Promise 7: "The switches become a number (its lowest 16 bits)."
    private static void switchesTake16Bits() {
        for (int[] one : WORDS) {
            OctalHouse x = Asm.with(Asm.io(Asm.LI, 1));
            Edge.changes("switches(" + one[0] + ")", x, "", () -> x.switches(one[0]));
            Edge.step("LIA 1", x, "P=65 A=" + one[1]);
        }
    }

    // Promise 8: "A DEVICE (0 .. 3: SC 8 .. 11)"; "IndexOutOfBoundsException: there is no such one."
    private static void deviceTakes0To3() {
        for (int d = 0; d <= 3; d++) {
            OctalHouse x = new OctalHouse();
            int device = d;
            int sc = 8 + d;
            Edge.changes("device(" + d + ", false, 7)", x, sc + ".in=0 " + sc + ".delay=7", () -> x.device(device, false, 7));
            Edge.changes("device(" + d + ", true, 8)", x, sc + ".in=1 " + sc + ".delay=8", () -> x.device(device, true, 8));
        }
        for (int d : NO_DEVICES) {
            OctalHouse x = new OctalHouse();
            Edge.refused("device(" + d + ", false, 7)", x, INDEX, () -> x.device(d, false, 7));
            Edge.refused("device(" + d + ", false, 0)", x, INDEX, () -> x.device(d, false, 0));
            Edge.refused("device(" + d + ", false, 101)", x, INDEX, () -> x.device(d, false, 101));
        }
    }

    // Promise 8: "IllegalArgumentException: DELAY." (Terms: "a DELAY (1 .. 100")
    private static void deviceTakesDelay1To100() {
        for (int delay : new int[] {1, 2, 99, 100}) {
            OctalHouse x = new OctalHouse();
            Edge.changes("delay " + delay, x, "11.in=0 11.delay=" + delay, () -> x.device(3, false, delay));
        }
        for (int delay : new int[] {0, -1, 101, 102, 65537, Edge.MIN, Edge.MAX}) {
            OctalHouse x = Asm.with(Asm.io(Asm.OT, 8), Asm.stc(8), Asm.stc(11));
            x.set(0, 500);
            x.device(0, false, 50);
            x.device(3, true, 60);
            x.run(3);
            Edge.refused("delay " + delay + " of a BUSY device", x, ARGUMENT, () -> x.device(0, true, delay));
            Edge.refused("delay " + delay + " of the last device", x, ARGUMENT, () -> x.device(3, false, delay));
        }
    }

    // Promise 8: "it is not BUSY then, its BUFFER 0"
    private static void deviceIsNotBusyThen() {
        for (int turnsBefore = 0; turnsBefore <= 2; turnsBefore++) {
            OctalHouse x = Asm.with(Asm.io(Asm.OT, 8), Asm.stc(8));
            x.device(0, false, 3);
            x.set(0, 77);
            x.run(2 + turnsBefore);
            Check.due("BUSY", x.code(8, 3), 3 - turnsBefore);
            Edge.changes("device of a BUSY one", x, "8.busy=0 8.buffer=0 8.delay=2", () -> x.device(0, false, 2));
            Edge.turns("then nothing goes OUT", x, 9, "held=0 P=" + (66 + turnsBefore + 9));
        }
    }

    // Promise 8 names no more than that: FLAG, ASKS, CONTROL, TAPE and OUT stay.
    private static void deviceLeavesTheRest() {
        OctalHouse x = Asm.with(Asm.io(Asm.OT, 10), Asm.stc(10), 0);
        x.device(2, false, 1);
        x.give(2, 4);
        x.set(0, 9);
        x.run(3);
        Edge.changes("device", x, "10.buffer=0 10.in=1 10.delay=100", () -> x.device(2, true, 100));
        Check.due("FLAG", x.code(10, 1), 1);
        Check.due("OUT", x.out(2, 0), 9);
    }

    // Promise 9: "IndexOutOfBoundsException."
    private static void giveTakes0To3() {
        OctalHouse x = new OctalHouse();
        for (int d = 0; d <= 3; d++) {
            int device = d;
            Edge.changes("give(" + d + ", 5)", x, (8 + d) + ".tape=1", () -> Check.due("give", x.give(device, 5), 1));
        }
        for (int d : NO_DEVICES) {
            OctalHouse y = new OctalHouse();
            Edge.refused("give(" + d + ", 5)", y, INDEX, () -> y.give(d, 5));
        }
    }

    // Promise 9: "IllegalStateException: it has 100."
    private static void giveRefusesThe101st() {
        for (int d = 0; d <= 3; d++) {
            OctalHouse x = Asm.with(Asm.stc(8 + d), 0);
            for (int i = 1; i <= 100; i++) {
                Check.due("give " + i, x.give(d, i), i);
            }
            int device = d;
            int sc = 8 + d;
            Edge.refused("the 101st", x, STATE, () -> x.give(device, 9));
            Edge.refused("the 101st again", x, STATE, () -> x.give(device, 9));
            Edge.refused("no device comes first", x, INDEX, () -> x.give(4, 9));
            Check.due("another has room", x.give((d + 1) % 4, 9), 1);
            x.run(2);
            Check.due("TAPE with one taken", x.code(sc, 5), 99);
            Check.due("give again", x.give(d, 9), 100);
            Edge.refused("one more", x, STATE, () -> x.give(device, 9));
        }
    }

    // Promise 9: "A word comes" (Terms: "WORDS have 16 bits")
    private static void giveTakes16Bits() {
        for (int[] one : WORDS) {
            OctalHouse x = Asm.with(Asm.stc(8), 0);
            x.give(0, one[0]);
            x.run(1);
            Edge.step("give(0, " + one[0] + ")", x, "P=66 held=0 8.busy=0 8.buffer=" + one[1] + " 8.tape=0 8.flag=1 8.asks=1");
        }
    }

    // Promise 9: "comes behind a DEVICE's TAPE": the first given is the first taken, more than 100 over time.
    private static void tapeGoesRound() {
        OctalHouse x = Asm.with(Asm.stc(9), Asm.mem(Asm.JMP, 64));
        int given = 0;
        for (; given < 99; given++) {
            x.give(1, 1000 + given);
        }
        x.run(1);
        for (int taken = 0; taken < 130; taken++) {
            if (given < 220) {
                x.give(1, 1000 + given);
                given++;
            }
            x.run(2);
            Check.due("word " + taken, x.code(9, 4), 1000 + taken);
        }
    }

    // Promise 10: "IndexOutOfBoundsException: no such DEVICE."
    private static void outTakes0To3() {
        OctalHouse x = new OctalHouse();
        for (int d = 0; d <= 3; d++) {
            Check.due("out(" + d + ", 0)", x.out(d, 0), OctalHouse.NONE);
        }
        for (int d : NO_DEVICES) {
            OctalHouse y = new OctalHouse();
            Edge.refused("out(" + d + ", 0)", y, INDEX, () -> y.out(d, 0));
            Check.fails("out(" + d + ", -1)", INDEX, () -> x.out(d, -1));
        }
    }

    /** A device that has given out so many words: 1, 2, 3, .. */
    private static OctalHouse gaveOut(int device, int words) {
        int sc = 8 + device;
        OctalHouse x = Asm.with(0x0404, Asm.io(Asm.OT, sc), Asm.stc(sc), Asm.mem(Asm.JMP, 64));
        x.device(device, false, 1);
        x.run(4 * words);
        return x;
    }

    // Promise 10: "The i-th word that a DEVICE gave OUT"; "NONE: there is none such."
    private static void outTellsWhatWent() {
        for (int d = 0; d <= 3; d++) {
            OctalHouse x = gaveOut(d, 3);
            int[] due = {1, 2, 3, -1, -1};
            for (int i = 0; i < due.length; i++) {
                Check.due("out(" + d + ", " + i + ") of 3", x.out(d, i), due[i]);
            }
            for (int i : new int[] {-1, -2, 199, 200, Edge.MIN, Edge.MAX}) {
                Check.due("out(" + d + ", " + i + ") of 3", x.out(d, i), OctalHouse.NONE);
            }
            Check.due("another one's", x.out((d + 1) % 4, 0), OctalHouse.NONE);
        }
    }

    // Promise 10: "(the first 200 are kept)"; promise 11 counts all "words that went OUT".
    private static void outKeepsTheFirst200() {
        for (int words : new int[] {199, 200, 201, 202, 400}) {
            OctalHouse x = gaveOut(2, words);
            Check.due("how many", x.code(10, 8), words);
            Check.due("the first of " + words, x.out(2, 0), 1);
            Check.due("the 199th of " + words, x.out(2, 198), 199);
            Check.due("the 200th of " + words, x.out(2, 199), words >= 200 ? 200 : OctalHouse.NONE);
            Check.due("the 201st of " + words, x.out(2, 200), OctalHouse.NONE);
            Check.due("the 202nd of " + words, x.out(2, 201), OctalHouse.NONE);
        }
    }

    // Promise 11: "Of SC 6 .. 11"; "NONE for others."
    private static void codeTells6To11() {
        OctalHouse x = new OctalHouse();
        for (int what = 0; what <= 8; what++) {
            for (int sc : new int[] {6, 7, 8, 9, 10, 11}) {
                Check.due("code(" + sc + ", " + what + ")", x.code(sc, what), sc >= 8 && (what == 6 || what == 7) ? 1 : 0);
            }
            for (int sc : new int[] {5, 4, 0, -1, 12, 13, 63, 70, 72, Edge.MIN, Edge.MAX}) {
                Check.due("code(" + sc + ", " + what + ")", x.code(sc, what), OctalHouse.NONE);
            }
        }
    }

    // Promise 11: "of 6, 7: 3 ACTIVE .. 8 words that it moved; of 8 .. 11: 3 BUSY .. 8 words that went OUT."
    private static void codeTells0To8() {
        OctalHouse x = new OctalHouse();
        for (int sc = 6; sc <= 11; sc++) {
            for (int what : new int[] {-1, -2, 9, 10, 64, Edge.MIN, Edge.MAX}) {
                Check.due("code(" + sc + ", " + what + ")", x.code(sc, what), OctalHouse.NONE);
            }
        }
        OctalHouse y = Asm.with(Asm.io(Asm.OT, 7), Asm.io(Asm.OT, 3) | Asm.ON_B, Asm.stc(3), Asm.io(Asm.OT, 3), Asm.stc(7), Asm.stf(7), Asm.stf(9), 0);
        y.set(0, 0x8009);
        y.set(1, 0x8000 | 300);
        y.device(1, true, 44);
        y.give(1, 5);
        y.run(8);
        int[] channel = {1, 1, 1, 1, 301, 0x800A, 1, 0x8009, 1};
        int[] device = {1, 0, 0, 44, 0, 1, 1, 44, 0};
        for (int what = 0; what <= 8; what++) {
            Check.due("code(7, " + what + ")", y.code(7, what), channel[what]);
            Check.due("code(9, " + what + ")", y.code(9, what), device[what]);
        }
    }

    // Promise 12: "32 bits, going round" (31 to the 6th is 887,503,681: twice it is below 2 to the 31st, three times it above)
    private static void sumGoesRound() {
        int[][] cases = {{1, 887503681}, {2, 1775007362}, {3, -1632456253}, {4, -744952572}, {5, 142551109}};
        for (int[] one : cases) {
            OctalHouse x = new OctalHouse();
            x.set(4089, one[0]);
            Check.due(one[0] + " at 4089", x.sum(), one[1]);
        }
        OctalHouse x = new OctalHouse();
        x.set(4090, 65535);
        x.set(4095, 65535);
        Check.due("two words of all ones", x.sum(), (int) (65535L * 28629151L + 65535L));
    }

    // Promise 12: "each word of MEMORY from address 0 on"
    private static void sumTakesEachWord() {
        int[][] cases = {{4095, 1}, {4094, 31}, {4093, 961}, {4092, 29791}};
        for (int[] one : cases) {
            OctalHouse x = new OctalHouse();
            x.set(one[0], 1);
            Check.due("1 at " + one[0], x.sum(), one[1]);
        }
        int power = 1;
        for (int i = 0; i < 4095; i++) {
            power *= 31;
        }
        OctalHouse x = new OctalHouse();
        x.set(0, 1);
        Check.due("A counts", x.sum(), power);
        x.set(1, 31);
        Check.due("so does B", x.sum(), 2 * power);
        Check.due("sum is no change", x.sum(), 2 * power);
    }

    // "An object is used for at most 512 calls after it has been made; what later calls answer is free."
    private static void objectsLast512Calls() {
        OctalHouse x = Asm.with(0x0404, Asm.io(Asm.OT, 8), Asm.stc(8), Asm.mem(Asm.JMP, 64));
        x.device(0, false, 1);
        for (int call = 7; call <= 509; call++) {
            Check.due("call " + call, x.run(2000), 2000);
        }
        Check.due("call 510: words OUT", x.code(8, 8), 503 * 500);
        Check.due("call 511: TURNS", x.state(10), 503 * 2000);
        Check.due("call 512: A", x.state(0), 503 * 500 & 65535);
        x.run(2000);
        x.sum();
        x.out(0, 0);
    }
}
