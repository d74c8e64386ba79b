/** Whole programs, as one would write them for the machine; what is due comes from Java's own arithmetic. */
public final class ProgramsTest {
    private static final int CLA = 0x0500, CLB = 0x0D00, CMA_INA = 0x0604, INB = 0x0C04, CLE = 0x0440, SEZ = 0x0420, SSA = 0x0410, SZA = 0x0402;
    private static final int ELA = 0x0380, ELB = 0x0B80;

    public static void main(String[] args) {
        sumOfNumbers();
        fibonacciOf32Bits();
        factorialsBySubroutine();
        listOfAddresses();
        digitsGoOut();
        tapeByInterrupts();
        twoDevicesByInterrupts();
        copyByChannels();
        switchesToLamps();
        Check.end("ProgramsTest");
    }

    private static int lda(int m) {
        return Asm.mem(Asm.LDA, m);
    }

    private static int sta(int m) {
        return Asm.mem(Asm.STA, m);
    }

    private static int jmp(int m) {
        return Asm.mem(Asm.JMP, m);
    }

    private static int halt(int code) {
        return Asm.io(Asm.HLT, code);
    }

    // A loop: the sum of 1 to 100, with ISZ as the counter.
    private static void sumOfNumbers() {
        OctalHouse x = Asm.with(CLA, INB, Asm.mem(Asm.ADA, 1), Asm.mem(Asm.ISZ, 200), jmp(65), sta(201), halt(1));
        x.set(200, -100);
        Check.due("sum: turns", x.run(2000), 1 + 100 * 4 - 1 + 2);
        Check.due("sum: word(201)", x.word(201), 5050);
        Check.due("sum: B", x.state(1), 100);
        Check.due("sum: counter", x.word(200), 0);
        Check.due("sum: P", x.state(2), 71);
        Check.due("sum: E and O", x.state(3) + x.state(4), 0);
    }

    // Double words, and a carry from the lower word to the higher one: Fibonacci's numbers of 32 bits, till they go round.
    private static void fibonacciOf32Bits() {
        // 300, 301 hold one number and 302, 303 the one behind it, the lower word first
        OctalHouse x = Asm.with(
            Asm.DLD, 300, CLE, Asm.mem(Asm.ADA, 302), SEZ | 1, jmp(71), INB, // 64 .. 70: SEZ,RSS skips if E is 1
            Asm.mem(Asm.ADB, 303), // 71
            Asm.DST, 304, Asm.DLD, 302, Asm.DST, 300, Asm.DLD, 304, Asm.DST, 302, // 72 .. 81
            Asm.mem(Asm.ISZ, 310), jmp(64), halt(2)); // 82 .. 84
        x.set(302, 1);
        x.set(310, -60);
        int turns = 0;
        while (x.state(7) == 0 && turns < 4000) {
            turns += x.run(7);
        }
        int a = 0;
        int b = 1;
        for (int i = 0; i < 60; i++) {
            int c = a + b;
            a = b;
            b = c;
        }
        Check.due("fibonacci: lower", x.word(302), b & 0xFFFF);
        Check.due("fibonacci: higher", x.word(303), b >>> 16);
        Check.due("fibonacci: lower before", x.word(300), a & 0xFFFF);
        Check.due("fibonacci: higher before", x.word(301), a >>> 16);
        Check.due("fibonacci: halted", x.state(8), 2);
        Check.due("fibonacci: turns done", x.state(10), turns);
    }

    // Subroutines and products: n! by JSB, with the number behind the call taken through the return address.
    private static void factorialsBySubroutine() {
        for (int n = 1; n <= 8; n++) {
            OctalHouse x = Asm.with(Asm.mem(Asm.JSB, 300), n, sta(200), halt(n));
            Asm.load(x, 300, 0,
                lda(300) | Asm.INDIRECT, sta(400), Asm.mem(Asm.ISZ, 300), // 301: the number; the return address goes behind it
                CMA_INA, sta(401), lda(402), // 304: its negative is the counter; A is 1
                Asm.MPY, 400, sta(403), // 307
                lda(400), Asm.mem(Asm.ADA, 404), sta(400), lda(403), // 310: the number is 1 less
                Asm.mem(Asm.ISZ, 401), jmp(307), // 314
                jmp(300) | Asm.INDIRECT); // 316
            x.set(402, 1);
            x.set(404, -1);
            x.run(500);
            int due = 1;
            for (int i = 2; i <= n; i++) {
                due *= i;
            }
            Check.due(n + "!", x.word(200), due & 0xFFFF);
            Check.due(n + "!: halted", x.state(8), n);
            Check.due(n + "!: P", x.state(2), 68);
            Check.due(n + "!: return address", x.word(300), 66);
        }
    }

    // A chain of addresses: each word of a list is reached through one more indirection.
    private static void listOfAddresses() {
        for (int depth = 1; depth <= 32; depth++) {
            OctalHouse x = Asm.with(lda(500) | Asm.INDIRECT, halt(0));
            for (int i = 0; i < depth - 1; i++) {
                x.set(500 + i, 0x8000 | 501 + i);
            }
            x.set(500 + depth - 1, 600);
            x.set(600, 1000 + depth);
            x.run(5);
            Check.due("list of " + depth, x.state(0), 1000 + depth);
            Check.due("list of " + depth + ": code", x.state(8), 0);
        }
    }

    // Quotients and a device: the digits of a number go out, the lowest first, each when the one before has gone.
    private static void digitsGoOut() {
        OctalHouse x = Asm.with(
            lda(200), CLB, Asm.DIV, 201, sta(200), // 64 .. 68
            Asm.io(Asm.OT, 11) | Asm.ON_B, Asm.stc(11) | Asm.CLEAR, // 69: the rest goes to the device
            Asm.io(Asm.SFS, 11), jmp(71), // 71: wait
            lda(200), SZA, jmp(64), // 73: SZA skips if A is 0
            halt(4)); // 76
        x.device(3, false, 9);
        x.set(200, 30271);
        x.set(201, 10);
        x.run(2000);
        int[] digits = {1, 7, 2, 0, 3};
        Check.due("digits: halted", x.state(8), 4);
        Check.due("digits: how many", x.code(11, 8), 5);
        for (int i = 0; i < 5; i++) {
            Check.due("digits: out(3, " + i + ")", x.out(3, i), digits[i]);
        }
        Check.due("digits: out(3, 5)", x.out(3, 5), -1);
        Check.due("digits: out(2, 0)", x.out(2, 0), -1);
        Check.due("digits: O", x.state(4), 0);
    }

    // A service routine: it keeps A, takes the word, puts it into a table and asks for the next one; the program counts on.
    private static OctalHouse readingByInterrupts(int device, int delay, int words) {
        int sc = 8 + device;
        OctalHouse x = Asm.with(Asm.stc(sc), Asm.stf(0), INB, jmp(66));
        x.set(sc, Asm.mem(Asm.JSB, 300));
        Asm.load(x, 300, 0,
            sta(399), Asm.io(Asm.LI, sc) | Asm.CLEAR, sta(398) | Asm.INDIRECT, Asm.mem(Asm.ISZ, 398), // 301
            lda(399), Asm.mem(Asm.ISZ, 397), jmp(309), halt(5), // 305
            Asm.stc(sc), jmp(300) | Asm.INDIRECT); // 309
        x.set(398, 1000);
        x.set(397, -words);
        x.set(0, 4711);
        x.device(device, true, delay);
        return x;
    }

    private static void tapeByInterrupts() {
        for (int device = 0; device < 4; device++) {
            OctalHouse x = readingByInterrupts(device, 30, 20);
            for (int i = 0; i < 25; i++) {
                Check.due("tape: give", x.give(device, 500 + 3 * i), i + 1);
            }
            x.run(2000);
            for (int i = 0; i < 20; i++) {
                Check.due("tape: word(" + (1000 + i) + ")", x.word(1000 + i), 500 + 3 * i);
            }
            Check.due("tape: no more", x.word(1020), 0);
            Check.due("tape: left", x.code(8 + device, 5), 5);
            Check.due("tape: served", x.state(11), 20);
            Check.due("tape: SC", x.state(12), 8 + device);
            Check.due("tape: A is kept", x.state(0), 4711);
            Check.due("tape: halted", x.state(8), 5);
            // of the 29 turns between STC and the next interrupt one jumps back (or is STF 0), of the other 28 every second counts
            Check.due("tape: the program counts on", x.state(1), 20 * 14);
            Check.due("tape: turns", x.state(10), 30 + 19 * 38 + 8);
        }
    }

    // Priority: while 8 is served (its FLAG stands till CLF), 9 waits; both get their words.
    private static void twoDevicesByInterrupts() {
        OctalHouse x = Asm.with(Asm.stc(9), Asm.stc(8), Asm.stf(0), jmp(67));
        for (int sc = 8; sc <= 9; sc++) {
            int at = 300 + 20 * (sc - 8);
            int table = 398 - 10 * (sc - 8);
            x.set(sc, Asm.mem(Asm.JSB, at));
            Asm.load(x, at, 0, Asm.io(Asm.LI, sc), sta(table) | Asm.INDIRECT, Asm.mem(Asm.ISZ, table), 0, 0, Asm.stc(sc) | Asm.CLEAR, jmp(at) | Asm.INDIRECT);
            x.set(table, 1000 + 100 * (sc - 8));
            x.device(sc - 8, true, 10);
            for (int i = 0; i < 10; i++) {
                x.give(sc - 8, 100 * sc + i);
            }
        }
        x.run(11);
        Check.due("priority: 9 was first BUSY, and is served first", x.state(12), 9);
        x.run(1);
        Check.due("priority: 8 comes between, being lower", x.state(12), 8);
        Check.due("priority: the return address is in 9's routine", x.word(300) > 320 && x.word(300) < 328 ? 1 : 0, 1);
        x.run(500);
        for (int i = 0; i < 10; i++) {
            Check.due("priority: 8's word " + i, x.word(1000 + i), 800 + i);
            Check.due("priority: 9's word " + i, x.word(1100 + i), 900 + i);
        }
    }

    // Both channels: 0 takes twelve words in; as it is done, its routine sends channel 1 to give the same words out.
    private static void copyByChannels() {
        OctalHouse x = Asm.with(
            lda(200), Asm.io(Asm.OT, 6), Asm.clc(2), lda(201), Asm.io(Asm.OT, 2), Asm.stc(2), lda(202), Asm.io(Asm.OT, 2), // 64 .. 71
            Asm.stc(6) | Asm.CLEAR, Asm.stc(8) | Asm.CLEAR, Asm.stf(0), jmp(75)); // 72 .. 75
        Asm.load(x, 200, 0xA000 | 8, 0x8000 | 1000, 65536 - 12, 0xA000 | 9, 1000, 65536 - 12);
        x.set(6, Asm.mem(Asm.JSB, 300));
        Asm.load(x, 300, 0, Asm.clf(6), lda(203), Asm.io(Asm.OT, 7), Asm.clc(3), lda(204), Asm.io(Asm.OT, 3), Asm.stc(3), lda(205), Asm.io(Asm.OT, 3),
            Asm.stc(7) | Asm.CLEAR, Asm.stf(9), jmp(300) | Asm.INDIRECT);
        x.set(7, Asm.mem(Asm.JSB, 330));
        Asm.load(x, 330, 0, Asm.stc(9), Asm.io(Asm.SFS, 9), jmp(332), halt(6)); // the last word is in the BUFFER: it is started by hand
        x.device(0, true, 4);
        x.device(1, false, 7);
        for (int i = 0; i < 12; i++) {
            x.give(0, 7 * i * i);
        }
        x.run(2000);
        Check.due("copy: halted", x.state(8), 6);
        for (int i = 0; i < 12; i++) {
            Check.due("copy: word(" + (1000 + i) + ")", x.word(1000 + i), 7 * i * i);
            Check.due("copy: out(1, " + i + ")", x.out(1, i), 7 * i * i);
        }
        Check.due("copy: out(1, 12)", x.out(1, 12), -1);
        Check.due("copy: moved in", x.code(6, 8), 12);
        Check.due("copy: moved out", x.code(7, 8), 12);
        Check.due("copy: served", x.state(11), 2);
        Check.due("copy: COUNTs", x.code(6, 5) + x.code(7, 5), 0);
        Check.due("copy: ACTIVE", x.code(6, 3) + x.code(7, 3), 0);
        Check.due("copy: ADDRESS in", x.code(6, 4), 1012);
        Check.due("copy: ADDRESS out", x.code(7, 4), 1012);
        Check.due("copy: in, out", 2 * x.code(6, 6) + x.code(7, 6), 2);
    }

    // The panel: bits of the switches are turned about through E, and shown.
    private static void switchesToLamps() {
        for (int v : new int[] {0, 1, 0x8000, 0xFFFF, 0x1234, 0xBEEF}) {
            // sixteen times: the sign of A goes through E into B at the lowest place, so B becomes A
            OctalHouse x = Asm.with(Asm.io(Asm.LI, 1), ELA, ELB, Asm.mem(Asm.ISZ, 200), jmp(65), Asm.io(Asm.OT, 1) | Asm.ON_B, SSA | 1, halt(7), halt(8));
            x.set(200, -16);
            x.switches(v);
            x.run(100);
            Check.due("panel " + v + ": lamps", x.state(9), v);
            Check.due("panel " + v + ": code", x.state(8), x.state(0) >= 0x8000 ? 8 : 7);
        }
    }
}
