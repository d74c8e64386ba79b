import java.util.Random;

/** Random runs of calls, the class against the model; nothing may be thrown that the document does not name. */
public final class ModelTest {
    private static final int RUNS = 1500;
    private static final int CALLS = 120;

    public static void main(String[] args) {
        for (int seed = 1; seed <= RUNS; seed++) {
            oneRun(new Random(seed), seed);
        }
        Check.end("ModelTest");
    }

    private static void oneRun(Random random, int seed) {
        OctalHouse x = new OctalHouse();
        Model m = new Model();
        int spread = seed % 3 == 0 ? 4096 : 200;
        int loaded = seed % 3 == 0 ? 3000 : 250;
        for (int i = 0; i < loaded; i++) {
            both(x, m, random.nextInt(spread), anyWord(random));
        }
        if (seed % 2 == 0) {
            startChannels(x, m, random);
        }
        for (int call = 0; call < CALLS; call++) {
            oneCall(x, m, random, "seed " + seed + " call " + call + ": ");
            compare(x, m, "seed " + seed + " call " + call + ": ");
        }
        Check.due("seed " + seed + " sum", x.sum(), sumOf(m));
        for (int d = 0; d < 4; d++) {
            for (int i = 0; i < 200; i++) {
                Check.due("seed " + seed + " out", x.out(d, i), i < m.gone.get(d).size() ? m.gone.get(d).get(i) : -1);
            }
        }
    }

    /** Chance alone hardly ever makes a channel move, so a program starts both, and lets interrupts come. */
    private static void startChannels(OctalHouse x, Model m, Random random) {
        int at = 64;
        for (int c = 0; c < 2; c++) {
            int sc = 8 + random.nextInt(4);
            int data = 150 + 3 * c;
            int address = random.nextInt(4) == 0 ? random.nextInt(65536) : 200 + random.nextInt(100) + random.nextInt(2) * 0x8000;
            int[] program = {Asm.mem(Asm.LDA, data), Asm.io(Asm.OT, 6 + c), Asm.mem(Asm.LDA, data + 1), Asm.io(Asm.OT, 2 + c),
                Asm.stc(2 + c), Asm.mem(Asm.LDA, data + 2), Asm.io(Asm.OT, 2 + c), Asm.stc(sc), Asm.stc(6 + c)};
            for (int word : program) {
                both(x, m, at++, word);
            }
            both(x, m, data, sc | random.nextInt(4) << 13 & 0x2000 | (random.nextInt(5) == 0 ? 0 : 0x8000));
            both(x, m, data + 1, address);
            both(x, m, data + 2, 65536 - 1 - random.nextInt(9));
        }
        both(x, m, at, Asm.stf(0));
        both(x, m, at + 1, 0);
        both(x, m, at + 2, random.nextInt(2) * 0x0404);
        both(x, m, at + 3, Asm.mem(Asm.JMP, at + 1));
        for (int sc = 6; sc <= 11; sc++) {
            both(x, m, sc, random.nextBoolean() ? Asm.clf(sc) : Asm.stc(sc) | Asm.CLEAR);
        }
        x.go(64);
        m.p = 64;
    }

    private static void both(OctalHouse x, Model m, int at, int v) {
        x.set(at, v);
        m.mem[at] = v & 65535;
    }

    private static int anyWord(Random random) {
        int[] codes = {0, 1, 2, 3, 6, 7, 8, 9, 10, 11, 8, 9, 10, 11, random.nextInt(64)};
        int[] wide = {Asm.MPY, Asm.DIV, Asm.DLD, Asm.DST};
        switch (random.nextInt(10)) {
            case 0: return random.nextInt(65536);
            case 1: return random.nextInt(4096);
            case 2: return 0x8000 | random.nextInt(200);
            case 3: return random.nextInt(12);
            case 4: return wide[random.nextInt(4)];
            case 5: return 0x8000 | random.nextInt(4) << 9 & 0x0200 | 1 << 4 + random.nextInt(3) | random.nextInt(16);
            case 6: return random.nextInt(14) + 2 << 11 | random.nextInt(2) * 0x0400 | random.nextInt(200) | random.nextInt(4) / 3 * 0x8000;
            default:
                int kind = 1 + random.nextInt(7);
                kind = random.nextInt(60) == 0 ? 0 : kind;
                return 0x8400 | random.nextInt(2) * 0x0800 | random.nextInt(3) / 2 * 0x0200 | kind << 6 | codes[random.nextInt(codes.length)];
        }
    }

    private static void oneCall(OctalHouse x, Model m, Random random, String where) {
        int d = random.nextInt(4);
        int v = random.nextInt(5) == 0 ? random.nextInt() : anyWord(random);
        switch (random.nextInt(8)) {
            case 0:
                int p = random.nextInt(4) == 0 ? random.nextInt(4096) : random.nextInt(200) - 1;
                x.go(p);
                m.halted = false;
                m.p = p == -1 ? m.p : p;
                break;
            case 1:
                both(x, m, random.nextInt(200), v);
                break;
            case 2:
                x.switches(v);
                m.switches = v & 65535;
                break;
            case 3:
                device(x, m, d, random.nextBoolean(), 1 + random.nextInt(random.nextInt(5) == 0 ? 100 : 5));
                break;
            case 4:
                if (m.tape.get(d).size() < 100) {
                    m.tape.get(d).add(v & 65535);
                    Check.due(where + "give", x.give(d, v), m.tape.get(d).size());
                }
                break;
            default:
                int n = random.nextInt(20) == 0 ? 2000 : 1 + random.nextInt(12);
                Check.due(where + "run(" + n + ")", x.run(n), m.run(n));
                break;
        }
    }

    private static void device(OctalHouse x, Model m, int d, boolean in, int delay) {
        x.device(d, in, delay);
        m.takesIn[d] = in;
        m.delay[d] = delay;
        m.busy[d] = 0;
        m.buffer[d] = 0;
    }

    private static int one(boolean b) {
        return b ? 1 : 0;
    }

    private static int sumOf(Model m) {
        int total = 0;
        for (int i = 0; i < 4096; i++) {
            total = total * 31 + m.mem[i];
        }
        return total;
    }

    private static void compare(OctalHouse x, Model m, String where) {
        int[] state = {m.mem[0], m.mem[1], m.p, m.e, m.o, one(m.on), one(m.held), one(m.halted), m.haltCode, m.lamps, m.turns, m.served, m.latest};
        for (int what = 0; what < state.length; what++) {
            Check.due(where + "state(" + what + ")", x.state(what), state[what]);
        }
        for (int sc = 6; sc <= 11; sc++) {
            int c = sc < 8 ? sc - 6 : 0;
            int d = sc < 8 ? 0 : sc - 8;
            int[] channel = {one(m.active[c]), m.address[c], m.count[c], one(m.channelIn[c]), m.first[c], m.moved[c]};
            int[] device = {m.busy[d], m.buffer[d], m.tape.get(d).size(), one(m.takesIn[d]), m.delay[d], m.gone.get(d).size()};
            Check.due(where + "CONTROL of " + sc, x.code(sc, 0), one(m.control[sc]));
            Check.due(where + "FLAG of " + sc, x.code(sc, 1), one(m.flag[sc]));
            Check.due(where + "ASKS of " + sc, x.code(sc, 2), one(m.asks[sc]));
            for (int what = 3; what <= 8; what++) {
                Check.due(where + "code(" + sc + ", " + what + ")", x.code(sc, what), (sc < 8 ? channel : device)[what - 3]);
            }
        }
    }
}
