/** The document once more, as one flat row of numbers and in other arithmetic, to hold the class against. */
final class Model {
    final int[] mem = new int[32768];
    final boolean[] control = new boolean[12], flag = new boolean[12], asks = new boolean[12];
    final boolean[] active = new boolean[2], channelIn = new boolean[2], wantsCount = new boolean[2];
    final int[] address = new int[2], count = new int[2], first = new int[2], moved = new int[2];
    final boolean[] takesIn = {true, true, true, true};
    final int[] delay = {1, 1, 1, 1}, buffer = new int[4], busy = new int[4];
    final java.util.List<java.util.ArrayDeque<Integer>> tape = new java.util.ArrayList<>();
    final java.util.List<java.util.ArrayList<Integer>> gone = new java.util.ArrayList<>();
    int p, e, o, haltCode = -1, lamps, switches, turns, served, latest = -1;
    boolean on, held, halted;
    boolean holds;

    Model() {
        for (int i = 0; i < 4; i++) {
            tape.add(new java.util.ArrayDeque<>());
            gone.add(new java.util.ArrayList<>());
        }
    }

    static boolean has(int word, int bit) {
        return (word / (1 << bit)) % 2 == 1;
    }

    static int part(int word, int high, int low) {
        return (word / (1 << low)) % (1 << (high - low + 1));
    }

    static int signed(int word) {
        return word >= 32768 ? word - 65536 : word;
    }

    void put(int at, int v) {
        if (at < 4096) {
            mem[at] = Math.floorMod(v, 65536);
        }
    }

    int run(int n) {
        int done = 0;
        for (; done < n && !halted; done++) {
            turn();
        }
        return done;
    }

    void start(int d) {
        busy[d] = delay[d];
    }

    void turn() {
        turns++;
        for (int d = 0; d < 4; d++) {
            if (busy[d] != 0 && --busy[d] == 0) {
                if (takesIn[d]) {
                    Integer next = tape.get(d).poll();
                    buffer[d] = next == null ? 0 : next;
                } else {
                    gone.get(d).add(buffer[d]);
                }
                flag[8 + d] = asks[8 + d] = true;
            }
        }
        for (int c = 0; c < 2; c++) {
            int sc = first[c] % 64;
            if (active[c] && sc >= 8 && sc <= 11 && flag[sc]) {
                steal(c, sc);
            }
        }
        int instruction = -1;
        int page = 0;
        if (on && !held) {
            int lowest = 0;
            for (int sc = 11; sc >= 6; sc--) {
                lowest = control[sc] && flag[sc] ? sc : lowest;
            }
            if (lowest > 0 && asks[lowest]) {
                asks[lowest] = false;
                served++;
                latest = lowest;
                instruction = mem[lowest];
            }
        }
        if (instruction < 0) {
            page = p / 1024;
            instruction = atP();
        }
        holds = false;
        perform(instruction, page);
        held = holds;
    }

    void steal(int c, int sc) {
        if (channelIn[c]) {
            put(address[c], buffer[sc - 8]);
        } else {
            buffer[sc - 8] = mem[address[c]];
        }
        flag[sc] = asks[sc] = false;
        address[c] = (address[c] + 1) % 32768;
        count[c] = (count[c] + 1) % 65536;
        moved[c]++;
        if (count[c] == 0) {
            flag[6 + c] = asks[6 + c] = true;
            active[c] = false;
            control[sc] = control[sc] && !has(first[c], 13);
        } else if (has(first[c], 15)) {
            control[sc] = true;
            start(sc - 8);
        }
    }

    int atP() {
        int v = mem[p];
        skip();
        return v;
    }

    void skip() {
        p = p == 32767 ? 0 : p + 1;
    }

    int follow(int a) {
        int times = 0;
        while (a >= 32768) {
            times++;
            if (times == 33) {
                halted = true;
                haltCode = 64;
                return -1;
            }
            a = mem[a - 32768];
        }
        return a;
    }

    void perform(int w, int page) {
        int group = part(w, 15, 12);
        if (part(w, 14, 12) != 0) {
            memory(w, page);
        } else if (group == 0 && !has(w, 10)) {
            srg(w);
        } else if (group == 0) {
            asg(w);
        } else if (has(w, 10)) {
            iog(w);
        } else {
            eau(w);
        }
    }

    void memory(int w, int page) {
        int a = part(w, 9, 0) + (has(w, 10) ? page * 1024 : 0);
        int m = follow(has(w, 15) ? a + 32768 : a);
        if (m < 0) {
            return;
        }
        int op = part(w, 14, 11);
        int r = op % 2;
        if (op == 2) {
            put(0, mem[0] & mem[m]);
        } else if (op == 4) {
            put(0, mem[0] ^ mem[m]);
        } else if (op == 6) {
            put(0, mem[0] | mem[m]);
        } else if (op == 3) {
            put(m, p);
            p = m;
            skip();
            holds = has(w, 15);
        } else if (op == 5) {
            p = m;
            holds = has(w, 15);
        } else if (op == 7) {
            int v = mem[m] + 1;
            put(m, v);
            if (v == 65536) {
                skip();
            }
        } else if (op <= 9) {
            int x = mem[r];
            int y = mem[m];
            int s = signed(x) + signed(y);
            e = x + y >= 65536 ? 1 : e;
            o = s < -32768 || s > 32767 ? 1 : o;
            put(r, x + y);
        } else if (op <= 11) {
            if (mem[r] != mem[m]) {
                skip();
            }
        } else if (op <= 13) {
            put(r, mem[m]);
        } else {
            put(m, mem[r]);
        }
    }

    void srg(int w) {
        int r = has(w, 11) ? 1 : 0;
        if (has(w, 9)) {
            put(r, shift(mem[r], part(w, 8, 6)));
        }
        if (has(w, 5)) {
            e = 0;
        }
        if (has(w, 3) && mem[r] % 2 == 0) {
            skip();
        }
        if (has(w, 4)) {
            put(r, shift(mem[r], part(w, 2, 0)));
        }
    }

    int shift(int v, int kind) {
        int sign = v / 32768;
        int low = v % 2;
        int old = e;
        if (kind == 0) {
            return sign * 32768 + v * 2 % 32768;
        } else if (kind == 1) {
            return Math.floorMod(Math.floorDiv(signed(v), 2), 65536);
        } else if (kind == 2) {
            return v * 2 % 65536 + sign;
        } else if (kind == 3) {
            return v / 2 + low * 32768;
        } else if (kind == 4) {
            return v * 2 % 32768;
        } else if (kind == 5) {
            e = low;
            return v / 2 + old * 32768;
        } else if (kind == 6) {
            e = sign;
            return v * 2 % 65536 + old;
        }
        return v * 16 % 65536 + v / 4096;
    }

    void asg(int w) {
        int r = has(w, 11) ? 1 : 0;
        int v = mem[r];
        int change = part(w, 9, 8);
        v = change == 0 ? v : change == 1 ? 0 : change == 2 ? 65535 - v : 65535;
        int asked = 0;
        int zeros = 0;
        int others = 0;
        if (has(w, 5)) {
            asked++;
            zeros += e == 0 ? 1 : 0;
            others += e;
        }
        int changeE = part(w, 7, 6);
        e = changeE == 0 ? e : changeE == 1 ? 0 : changeE == 2 ? 1 - e : 1;
        int sign = v / 32768;
        int low = v % 2;
        if (has(w, 4)) {
            asked++;
            zeros += 1 - sign;
            others += has(w, 3) ? 0 : sign;
        }
        if (has(w, 3)) {
            asked++;
            zeros += 1 - low;
            others += has(w, 4) ? sign * low : low;
        }
        if (has(w, 2)) {
            e = v == 65535 ? 1 : e;
            o = v == 32767 ? 1 : o;
            v = (v + 1) % 65536;
        }
        if (has(w, 1)) {
            asked++;
            zeros += v == 0 ? 1 : 0;
            others += v == 0 ? 0 : 1;
        }
        put(r, v);
        if (has(w, 0) ? asked == 0 || others > 0 : zeros > 0) {
            skip();
        }
    }

    boolean flagOf(int sc) {
        return sc == 0 ? on : sc == 1 ? o == 1 : sc >= 6 && sc <= 11 && flag[sc];
    }

    void putFlag(int sc, boolean to) {
        holds = true;
        if (sc == 0) {
            on = to;
        } else if (sc == 1) {
            o = to ? 1 : 0;
        } else if (sc >= 6 && sc <= 11) {
            flag[sc] = asks[sc] = to;
        }
    }

    int tells(int sc) {
        return sc == 1 ? switches : sc == 2 || sc == 3 ? count[sc - 2] : sc >= 8 && sc <= 11 ? buffer[sc - 8] : 0;
    }

    void iog(int w) {
        int sc = part(w, 5, 0);
        int r = has(w, 11) ? 1 : 0;
        boolean c = has(w, 9);
        int kind = part(w, 8, 6);
        if (kind == 0) {
            halted = true;
            haltCode = sc;
        } else if (kind == 1) {
            putFlag(sc, !c);
        } else if (kind == 2 || kind == 3) {
            if (flagOf(sc) == (kind == 3)) {
                skip();
            }
        } else if (kind == 4) {
            put(r, mem[r] | tells(sc));
        } else if (kind == 5) {
            put(r, tells(sc));
        } else if (kind == 6) {
            take(sc, mem[r]);
        } else {
            holds = true;
            putControl(sc, r == 0);
        }
        if (c && (kind == 0 || kind >= 4)) {
            putFlag(sc, false);
        }
    }

    void take(int sc, int v) {
        if (sc == 1) {
            lamps = v;
        } else if (sc == 2 || sc == 3) {
            if (wantsCount[sc - 2]) {
                count[sc - 2] = v;
            } else {
                address[sc - 2] = v % 32768;
                channelIn[sc - 2] = v >= 32768;
            }
        } else if (sc == 6 || sc == 7) {
            first[sc - 6] = v;
        } else if (sc >= 8 && sc <= 11) {
            buffer[sc - 8] = v;
        }
    }

    void putControl(int sc, boolean to) {
        if (sc == 0 && !to) {
            java.util.Arrays.fill(control, false);
            java.util.Arrays.fill(active, false);
        } else if (sc == 2 || sc == 3) {
            wantsCount[sc - 2] = to;
        } else if (sc >= 6 && sc <= 11) {
            control[sc] = to;
            if (sc < 8) {
                active[sc - 6] = to;
            } else if (to) {
                start(sc - 8);
            }
        }
    }

    void eau(int w) {
        String octal = Integer.toOctalString(w);
        long pair = mem[1] * 65536L + mem[0];
        long signedPair = signed(mem[1]) * 65536L + mem[0];
        if (octal.equals("100200") || octal.equals("100400") || octal.equals("104200") || octal.equals("104400")) {
            int m = follow(atP());
            if (m >= 0) {
                wide(octal, m, (m + 1) % 32768, signedPair);
            }
            return;
        }
        int n = w % 16 == 0 ? 16 : w % 16;
        switch (w - w % 16) {
            case 0100020: leftWithSign(pair, n); break;
            case 0101020:
                pair = Math.floorDiv(signedPair, 1L << n);
                putPair(pair);
                o = 0;
                break;
            case 0100040: putPair(pair << n); break;
            case 0101040: putPair(pair >> n); break;
            case 0100100: putPair(Integer.rotateLeft((int) pair, n)); break;
            case 0101100: putPair(Integer.rotateRight((int) pair, n)); break;
            default: break;
        }
    }

    void leftWithSign(long pair, int n) {
        long sign = pair >> 31;
        o = 0;
        for (int i = 0; i < n; i++) {
            if ((pair >> 30) % 2 != sign) {
                o = 1;
            }
            pair = (sign << 31) + (pair << 1) % (1L << 31);
        }
        putPair(pair);
    }

    void putPair(long pair) {
        put(0, (int) Math.floorMod(pair, 65536L));
        put(1, (int) Math.floorMod(Math.floorDiv(pair, 65536L), 65536L));
    }

    void wide(String octal, int m, int next, long signedPair) {
        int it = signed(mem[m]);
        int a = mem[0];
        int b = mem[1];
        if (octal.equals("100200")) {
            putPair((long) signed(a) * it);
            o = 0;
        } else if (octal.equals("100400")) {
            long q = it == 0 ? 99999 : Math.abs(signedPair) / Math.abs(it) * Long.signum(signedPair) * Integer.signum(it);
            o = q < -32768 || q > 32767 ? 1 : 0;
            if (o == 0) {
                put(0, (int) q);
                put(1, (int) (signedPair - q * it));
            }
        } else if (octal.equals("104200")) {
            int second = mem[next];
            put(0, mem[m]);
            put(1, second);
        } else {
            put(m, a);
            put(next, b);
        }
    }
}
