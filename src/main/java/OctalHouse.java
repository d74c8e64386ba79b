/** A computer of 16-bit words, with devices behind select codes and two channels; ../shared/DOC.md promises what it does. */
public final class OctalHouse {
    public static final int NONE = -1;

    private static final int WORD_BITS = 0xFFFF;
    private static final int ADDRESS_BITS = 0x7FFF;
    private static final int PAGE_BITS = 0x7C00;
    private static final int PLACE_BITS = 0x03FF;
    private static final int CODE_BITS = 0x3F;
    private static final int SIGN = 0x8000;
    private static final int BIT_10 = 0x0400;
    private static final int LONG_SIGN = 0x80000000;
    private static final int LONG_REST = 0x7FFFFFFF;

    private static final int MEMORY_SIZE = 4096;
    private static final int A = 0;
    private static final int B = 1;

    private static final int MOST_TURNS = 2000;
    private static final int MOST_INDIRECTIONS = 32;
    private static final int INDIRECTION_HALT = 64;

    private static final int MOST_DELAY = 100;
    private static final int TAPE_SIZE = 100;
    private static final int KEPT_OUT = 200;

    private static final int SC_INTERRUPTS = 0;
    private static final int SC_PANEL = 1;
    private static final int SC_FIRST_REGISTER = 2;
    private static final int SC_FIRST_CHANNEL = 6;
    private static final int SC_FIRST_DEVICE = 8;
    private static final int SC_LAST_LINE = 11;
    private static final int CHANNELS = 2;
    private static final int DEVICES = 4;

    private final Memory memory;
    private final Registers registers;
    private final Bus bus;
    private final Processor processor;
    private int turns;
    private int served;
    private int latestServed;

    public OctalHouse() {
        memory = new Memory();
        registers = new Registers();
        bus = new Bus(registers);
        processor = new Processor(memory, registers, bus);
        latestServed = NONE;
    }

    public int run(int n) throws IllegalArgumentException {
        if (n < 0 || n > MOST_TURNS) {
            throw new IllegalArgumentException("the turns are not 0 to 2000");
        }
        int done = 0;
        while (done < n && !registers.halted) {
            doTurn();
            done++;
        }
        turns += done;
        return done;
    }

    public void go(int p) {
        registers.halted = false;
        if (p != NONE) {
            registers.p = p & ADDRESS_BITS;
        }
    }

    public int word(int address) throws IndexOutOfBoundsException {
        if (address < 0 || address >= MEMORY_SIZE) {
            throw new IndexOutOfBoundsException("the address is not 0 to 4095");
        }
        return memory.read(address);
    }

    public void set(int address, int v) throws IndexOutOfBoundsException {
        if (address < 0 || address >= MEMORY_SIZE) {
            throw new IndexOutOfBoundsException("the address is not 0 to 4095");
        }
        memory.write(address, v);
    }

    public int state(int what) {
        switch (what) {
            case 0: return memory.read(A);
            case 1: return memory.read(B);
            case 2: return registers.p;
            case 3: return registers.e;
            case 4: return registers.o;
            case 5: return bit(bus.interruptsOn);
            case 6: return bit(registers.heldOff);
            case 7: return bit(registers.halted);
            case 8: return registers.haltCode;
            case 9: return bus.lamps;
            case 10: return turns;
            case 11: return served;
            case 12: return latestServed;
            default: return NONE;
        }
    }

    public void switches(int v) {
        bus.switchWord = v & WORD_BITS;
    }

    public void device(int device, boolean in, int delay) throws IndexOutOfBoundsException, IllegalArgumentException {
        Device found = bus.deviceAt(device);
        if (found == null) {
            throw new IndexOutOfBoundsException("there is no such device");
        }
        if (delay < 1 || delay > MOST_DELAY) {
            throw new IllegalArgumentException("the delay is not 1 to 100");
        }
        found.equip(in, delay);
    }

    public int give(int device, int v) throws IndexOutOfBoundsException, IllegalStateException {
        Device found = bus.deviceAt(device);
        if (found == null) {
            throw new IndexOutOfBoundsException("there is no such device");
        }
        if (found.tapeLength >= TAPE_SIZE) {
            throw new IllegalStateException("the tape is full");
        }
        found.putOnTape(v & WORD_BITS);
        return found.tapeLength;
    }

    public int out(int device, int i) throws IndexOutOfBoundsException {
        Device found = bus.deviceAt(device);
        if (found == null) {
            throw new IndexOutOfBoundsException("there is no such device");
        }
        return found.keptOut(i);
    }

    public int code(int sc, int what) {
        Line line = bus.lineOf(sc);
        if (line == null) {
            return NONE;
        }
        switch (what) {
            case 0: return bit(line.control);
            case 1: return bit(line.flag);
            case 2: return bit(line.asks);
            default: break;
        }
        Channel channel = bus.channelAt(sc - SC_FIRST_CHANNEL);
        if (channel != null) {
            return channel.tellPart(what);
        }
        Device found = bus.deviceAt(sc - SC_FIRST_DEVICE);
        return found == null ? NONE : found.tellPart(what);
    }

    public int sum() {
        int total = 0;
        for (int address = 0; address < MEMORY_SIZE; address++) {
            total = 31 * total + memory.read(address);
        }
        return total;
    }

    private void doTurn() {
        bus.advanceDevices();
        bus.advanceChannels(memory);
        int sc = bus.interruptsOn && !registers.heldOff ? bus.takeInterrupt() : NONE;
        registers.heldOff = false;
        if (sc != NONE) {
            served++;
            latestServed = sc;
            processor.perform(memory.read(sc), 0);
        } else {
            int page = registers.p & PAGE_BITS;
            processor.perform(processor.nextWord(), page);
        }
    }

    private static int bit(boolean b) {
        return b ? 1 : 0;
    }

    /** The words; A and B are the first two, so programs and calls reach them by address too. */
    private static final class Memory {
        private final int[] words = new int[MEMORY_SIZE];

        int read(int address) {
            return address >= 0 && address < words.length ? words[address] : 0;
        }

        void write(int address, int v) {
            if (address >= 0 && address < words.length) {
                words[address] = v & WORD_BITS;
            }
        }
    }

    /** What the processor holds beside A and B. */
    private static final class Registers {
        private int p;
        private int e;
        private int o;
        private boolean heldOff;
        private boolean halted;
        private int haltCode = NONE;

        void stepOn() {
            p = (p + 1) & ADDRESS_BITS;
        }

        void halt(int reason) {
            halted = true;
            haltCode = reason;
        }
    }

    /** What a select code that can interrupt shows to the chain of priority. */
    private static final class Line {
        private boolean control;
        private boolean flag;
        private boolean asks;

        void putFlag(boolean on) {
            flag = on;
            asks = on;
        }
    }

    private static final class Device {
        private final Line line = new Line();
        private final int[] tape = new int[TAPE_SIZE];
        private final int[] kept = new int[KEPT_OUT];
        private boolean takesIn = true;
        private int delay = 1;
        private int buffer;
        private int busy;
        private int tapeStart;
        private int tapeLength;
        private int wentOut;

        void equip(boolean in, int newDelay) {
            takesIn = in;
            delay = newDelay;
            busy = 0;
            buffer = 0;
        }

        void start() {
            busy = delay;
        }

        void advance() {
            if (busy == 0) {
                return;
            }
            busy--;
            if (busy > 0) {
                return;
            }
            if (takesIn) {
                buffer = takeFromTape();
            } else {
                putOut(buffer);
            }
            line.putFlag(true);
        }

        void putOnTape(int v) {
            int end = tapeStart + tapeLength;
            if (end >= TAPE_SIZE) {
                end -= TAPE_SIZE;
            }
            if (tapeLength < TAPE_SIZE && end >= 0 && end < tape.length) {
                tape[end] = v;
                tapeLength++;
            }
        }

        private int takeFromTape() {
            if (tapeLength == 0 || tapeStart < 0 || tapeStart >= tape.length) {
                return 0;
            }
            int v = tape[tapeStart];
            tapeStart = tapeStart + 1 < TAPE_SIZE ? tapeStart + 1 : 0;
            tapeLength--;
            return v;
        }

        private void putOut(int v) {
            if (wentOut >= 0 && wentOut < kept.length) {
                kept[wentOut] = v;
            }
            wentOut++;
        }

        int keptOut(int i) {
            return i >= 0 && i < wentOut && i < kept.length ? kept[i] : NONE;
        }

        int tellPart(int what) {
            switch (what) {
                case 3: return busy;
                case 4: return buffer;
                case 5: return tapeLength;
                case 6: return bit(takesIn);
                case 7: return delay;
                case 8: return wentOut;
                default: return NONE;
            }
        }
    }

    private static final class Channel {
        private static final int RESETS_CONTROL = 0x2000;
        private static final int STARTS_AGAIN = 0x8000;

        private final Line line = new Line();
        private boolean active;
        private int address;
        private int count;
        private boolean goesIn;
        private int firstWord;
        private int moved;
        private boolean countComesNext;

        void move(Device device, Memory memory) {
            if (goesIn) {
                memory.write(address, device.buffer);
            } else {
                device.buffer = memory.read(address);
            }
            device.line.putFlag(false);
            address = (address + 1) & ADDRESS_BITS;
            count = (count + 1) & WORD_BITS;
            moved++;
            if (count == 0) {
                finish(device);
            } else if ((firstWord & STARTS_AGAIN) != 0) {
                device.line.control = true;
                device.start();
            }
        }

        private void finish(Device device) {
            line.putFlag(true);
            active = false;
            if ((firstWord & RESETS_CONTROL) != 0) {
                device.line.control = false;
            }
        }

        void takeRegister(int v) {
            if (countComesNext) {
                count = v;
            } else {
                address = v & ADDRESS_BITS;
                goesIn = (v & SIGN) != 0;
            }
        }

        int tellPart(int what) {
            switch (what) {
                case 3: return bit(active);
                case 4: return address;
                case 5: return count;
                case 6: return bit(goesIn);
                case 7: return firstWord;
                case 8: return moved;
                default: return NONE;
            }
        }
    }

    /** All select codes, as instructions, channels and the chain of priority reach them. */
    private static final class Bus {
        private final Registers registers;
        private final Channel[] channels = new Channel[CHANNELS];
        private final Device[] devices = new Device[DEVICES];
        private final Line[] lines = new Line[CHANNELS + DEVICES];
        private boolean interruptsOn;
        private int switchWord;
        private int lamps;

        Bus(Registers registers) {
            this.registers = registers;
            for (int i = 0; i < CHANNELS; i++) {
                Channel channel = new Channel();
                channels[i] = channel;
                lines[i] = channel.line;
            }
            for (int i = 0; i < DEVICES; i++) {
                Device device = new Device();
                devices[i] = device;
                lines[CHANNELS + i] = device.line;
            }
        }

        Channel channelAt(int i) {
            return i >= 0 && i < channels.length ? channels[i] : null;
        }

        Device deviceAt(int i) {
            return i >= 0 && i < devices.length ? devices[i] : null;
        }

        Line lineOf(int sc) {
            int i = sc - SC_FIRST_CHANNEL;
            return i >= 0 && i < lines.length ? lines[i] : null;
        }

        void advanceDevices() {
            for (int i = 0; i < DEVICES; i++) {
                Device device = deviceAt(i);
                if (device != null) {
                    device.advance();
                }
            }
        }

        void advanceChannels(Memory memory) {
            for (int i = 0; i < CHANNELS; i++) {
                Channel channel = channelAt(i);
                if (channel != null && channel.active) {
                    Device device = deviceAt((channel.firstWord & CODE_BITS) - SC_FIRST_DEVICE);
                    if (device != null && device.line.flag) {
                        channel.move(device, memory);
                    }
                }
            }
        }

        /** A lower select code that was served and still stands keeps the higher ones waiting. */
        int takeInterrupt() {
            for (int sc = SC_FIRST_CHANNEL; sc <= SC_LAST_LINE; sc++) {
                Line line = lineOf(sc);
                if (line != null && line.control && line.flag) {
                    boolean asked = line.asks;
                    line.asks = false;
                    return asked ? sc : NONE;
                }
            }
            return NONE;
        }

        boolean flagOf(int sc) {
            if (sc == SC_INTERRUPTS) {
                return interruptsOn;
            }
            if (sc == SC_PANEL) {
                return registers.o != 0;
            }
            Line line = lineOf(sc);
            return line != null && line.flag;
        }

        void putFlag(int sc, boolean on) {
            if (sc == SC_INTERRUPTS) {
                interruptsOn = on;
                return;
            }
            if (sc == SC_PANEL) {
                registers.o = bit(on);
                return;
            }
            Line line = lineOf(sc);
            if (line != null) {
                line.putFlag(on);
            }
        }

        int tell(int sc) {
            if (sc == SC_PANEL) {
                return switchWord;
            }
            Channel registersOwner = channelAt(sc - SC_FIRST_REGISTER);
            if (registersOwner != null) {
                return registersOwner.count;
            }
            Device device = deviceAt(sc - SC_FIRST_DEVICE);
            return device == null ? 0 : device.buffer;
        }

        void take(int sc, int v) {
            if (sc == SC_PANEL) {
                lamps = v;
                return;
            }
            Channel registersOwner = channelAt(sc - SC_FIRST_REGISTER);
            if (registersOwner != null) {
                registersOwner.takeRegister(v);
                return;
            }
            Channel channel = channelAt(sc - SC_FIRST_CHANNEL);
            if (channel != null) {
                channel.firstWord = v;
                return;
            }
            Device device = deviceAt(sc - SC_FIRST_DEVICE);
            if (device != null) {
                device.buffer = v;
            }
        }

        void putControl(int sc, boolean on) {
            if (sc == SC_INTERRUPTS && !on) {
                resetAllControls();
                return;
            }
            Channel registersOwner = channelAt(sc - SC_FIRST_REGISTER);
            if (registersOwner != null) {
                registersOwner.countComesNext = on;
                return;
            }
            putLineControl(sc, on);
        }

        private void putLineControl(int sc, boolean on) {
            Line line = lineOf(sc);
            if (line == null) {
                return;
            }
            line.control = on;
            Channel channel = channelAt(sc - SC_FIRST_CHANNEL);
            if (channel != null) {
                channel.active = on;
            }
            Device device = deviceAt(sc - SC_FIRST_DEVICE);
            if (device != null && on) {
                device.start();
            }
        }

        private void resetAllControls() {
            for (int sc = SC_FIRST_CHANNEL; sc <= SC_LAST_LINE; sc++) {
                Line line = lineOf(sc);
                if (line != null) {
                    line.control = false;
                }
            }
            for (int i = 0; i < CHANNELS; i++) {
                Channel channel = channelAt(i);
                if (channel != null) {
                    channel.active = false;
                }
            }
        }
    }

    /** Does one instruction at a time. */
    private static final class Processor {
        private static final int MPY = 0100200;
        private static final int DIV = 0100400;
        private static final int DLD = 0104200;
        private static final int DST = 0104400;
        private static final int ASL = 0100020;
        private static final int ASR = 0101020;
        private static final int LSL = 0100040;
        private static final int LSR = 0101040;
        private static final int RRL = 0100100;
        private static final int RRR = 0101100;

        private final Memory memory;
        private final Registers registers;
        private final Bus bus;

        Processor(Memory memory, Registers registers, Bus bus) {
            this.memory = memory;
            this.registers = registers;
            this.bus = bus;
        }

        int nextWord() {
            int v = memory.read(registers.p);
            registers.stepOn();
            return v;
        }

        void perform(int word, int page) {
            boolean bit10 = (word & BIT_10) != 0;
            if ((word & 0x7000) != 0) {
                int place = (bit10 ? page : 0) | (word & PLACE_BITS);
                referToMemory(word, resolve((word & SIGN) | place));
            } else if ((word & SIGN) == 0) {
                if (bit10) {
                    alterAndSkip(word);
                } else {
                    shiftAndSkip(word);
                }
            } else if (bit10) {
                inputOrOutput(word);
            } else if (hasAddressBehind(word)) {
                doubleWord(word, resolve(nextWord()));
            } else {
                longShift(word);
            }
        }

        /** NONE, with the machine halted, if the indirections do not end in time. */
        private int resolve(int start) {
            int address = start;
            for (int i = 0; i < MOST_INDIRECTIONS && (address & SIGN) != 0; i++) {
                address = memory.read(address & ADDRESS_BITS);
            }
            if ((address & SIGN) != 0) {
                registers.halt(INDIRECTION_HALT);
                return NONE;
            }
            return address;
        }

        private void referToMemory(int word, int m) {
            if (m == NONE) {
                return;
            }
            boolean indirect = (word & SIGN) != 0;
            int r = registerOf(word);
            int it = memory.read(m);
            switch ((word >> 11) & 15) {
                case 2: memory.write(A, memory.read(A) & it); break;
                case 3:
                    memory.write(m, registers.p);
                    jump(m + 1, indirect);
                    break;
                case 4: memory.write(A, memory.read(A) ^ it); break;
                case 5: jump(m, indirect); break;
                case 6: memory.write(A, memory.read(A) | it); break;
                case 7: incrementAndSkip(m, it); break;
                case 8:
                case 9: add(r, it); break;
                case 10:
                case 11: skipIf(memory.read(r) != it); break;
                case 12:
                case 13: memory.write(r, it); break;
                case 14:
                case 15: memory.write(m, memory.read(r)); break;
                default: break;
            }
        }

        private static int registerOf(int word) {
            return (word & 0x0800) == 0 ? A : B;
        }

        private void skipIf(boolean so) {
            if (so) {
                registers.stepOn();
            }
        }

        private void jump(int target, boolean indirect) {
            registers.p = target & ADDRESS_BITS;
            registers.heldOff = indirect;
        }

        private void incrementAndSkip(int m, int it) {
            int v = (it + 1) & WORD_BITS;
            memory.write(m, v);
            skipIf(v == 0);
        }

        private void add(int r, int it) {
            int was = memory.read(r);
            int total = was + it;
            memory.write(r, total);
            if (total > WORD_BITS) {
                registers.e = 1;
            }
            if (((was ^ total) & (it ^ total) & SIGN) != 0) {
                registers.o = 1;
            }
        }

        private void shiftAndSkip(int word) {
            int r = registerOf(word);
            if ((word & 0x0200) != 0) {
                memory.write(r, shifted(memory.read(r), (word >> 6) & 7));
            }
            if ((word & 0x0020) != 0) {
                registers.e = 0;
            }
            skipIf((word & 0x0008) != 0 && (memory.read(r) & 1) == 0);
            if ((word & 0x0010) != 0) {
                memory.write(r, shifted(memory.read(r), word & 7));
            }
        }

        private int shifted(int v, int kind) {
            switch (kind) {
                case 0: return (v & SIGN) | ((v << 1) & ADDRESS_BITS);
                case 1: return (v & SIGN) | (v >> 1);
                case 2: return ((v << 1) | (v >> 15)) & WORD_BITS;
                case 3: return ((v >> 1) | (v << 15)) & WORD_BITS;
                case 4: return (v << 1) & ADDRESS_BITS;
                case 5: return throughE(v & 1, (v >> 1) | (registers.e << 15));
                case 6: return throughE(v >> 15, ((v << 1) & WORD_BITS) | registers.e);
                default: return ((v << 4) | (v >> 12)) & WORD_BITS;
            }
        }

        private int throughE(int newE, int v) {
            registers.e = newE;
            return v;
        }

        private void alterAndSkip(int word) {
            int r = registerOf(word);
            int v = altered(memory.read(r), (word >> 8) & 3);
            boolean asksE = (word & 0x0020) != 0;
            boolean asksSign = (word & 0x0010) != 0;
            boolean asksLowest = (word & 0x0008) != 0;
            boolean asksR = (word & 0x0002) != 0;
            boolean e = registers.e != 0;
            boolean sign = (v & SIGN) != 0;
            boolean lowest = (v & 1) != 0;
            registers.e = alteredE(registers.e, (word >> 6) & 3);
            if ((word & 0x0004) != 0) {
                v = incremented(v);
            }
            memory.write(r, v);
            boolean isR = v != 0;
            if ((word & 1) == 0) {
                skipIf(asksE && !e || asksSign && !sign || asksLowest && !lowest || asksR && !isR);
                return;
            }
            boolean nothingAsked = !asksE && !asksSign && !asksLowest && !asksR;
            boolean ends = asksSign && asksLowest ? sign && lowest : asksSign && sign || asksLowest && lowest;
            skipIf(nothingAsked || asksE && e || ends || asksR && isR);
        }

        private static int altered(int v, int kind) {
            switch (kind) {
                case 1: return 0;
                case 2: return v ^ WORD_BITS;
                case 3: return WORD_BITS;
                default: return v;
            }
        }

        private static int alteredE(int e, int kind) {
            switch (kind) {
                case 1: return 0;
                case 2: return 1 - e;
                case 3: return 1;
                default: return e;
            }
        }

        private int incremented(int v) {
            if (v == WORD_BITS) {
                registers.e = 1;
            }
            if (v == ADDRESS_BITS) {
                registers.o = 1;
            }
            return (v + 1) & WORD_BITS;
        }

        private void inputOrOutput(int word) {
            int sc = word & CODE_BITS;
            int r = registerOf(word);
            boolean clears = (word & 0x0200) != 0;
            switch ((word >> 6) & 7) {
                case 0: registers.halt(sc); break;
                case 1:
                    bus.putFlag(sc, !clears);
                    registers.heldOff = true;
                    return;
                case 2: skipIf(!bus.flagOf(sc)); return;
                case 3: skipIf(bus.flagOf(sc)); return;
                case 4: memory.write(r, memory.read(r) | bus.tell(sc)); break;
                case 5: memory.write(r, bus.tell(sc)); break;
                case 6: bus.take(sc, memory.read(r)); break;
                default:
                    bus.putControl(sc, r == A);
                    registers.heldOff = true;
                    break;
            }
            if (clears) {
                bus.putFlag(sc, false);
                registers.heldOff = true;
            }
        }

        private static boolean hasAddressBehind(int word) {
            return word == MPY || word == DIV || word == DLD || word == DST;
        }

        private void doubleWord(int word, int m) {
            if (m == NONE) {
                return;
            }
            int second = (m + 1) & ADDRESS_BITS;
            switch (word) {
                case MPY: multiply(memory.read(m)); break;
                case DIV: divide(memory.read(m)); break;
                case DLD: writeTwo(A, memory.read(m), B, memory.read(second)); break;
                default: writeTwo(m, memory.read(A), second, memory.read(B)); break;
            }
        }

        /** Both words are read before either is written, since m may be A or B. */
        private void writeTwo(int first, int firstWord, int second, int secondWord) {
            memory.write(first, firstWord);
            memory.write(second, secondWord);
        }

        private int readPair() {
            return (memory.read(B) << 16) | memory.read(A);
        }

        private void writePair(int v) {
            memory.write(A, v);
            memory.write(B, v >>> 16);
        }

        private void multiply(int it) {
            writePair((short) memory.read(A) * (short) it);
            registers.o = 0;
        }

        private void divide(int it) {
            long divisor = (short) it;
            registers.o = 1;
            if (divisor == 0) {
                return;
            }
            long pair = readPair();
            long quotient = pair / divisor;
            if (quotient < -32768 || quotient > 32767) {
                return;
            }
            memory.write(A, (int) quotient);
            memory.write(B, (int) (pair % divisor));
            registers.o = 0;
        }

        private void longShift(int word) {
            int n = (word & 15) == 0 ? 16 : word & 15;
            int v = readPair();
            switch (word & 0177760) {
                case ASL:
                    writePair((v & LONG_SIGN) | ((v << n) & LONG_REST));
                    registers.o = bit(losesUnlikeSign(v, n));
                    break;
                case ASR:
                    writePair(v >> n);
                    registers.o = 0;
                    break;
                case LSL: writePair(v << n); break;
                case LSR: writePair(v >>> n); break;
                case RRL: writePair((v << n) | (v >>> (32 - n))); break;
                case RRR: writePair((v >>> n) | (v << (32 - n))); break;
                default: break;
            }
        }

        private static boolean losesUnlikeSign(int v, int n) {
            int lost = (v & LONG_REST) >>> (31 - n);
            int allLikeSign = v < 0 ? (1 << n) - 1 : 0;
            return lost != allLikeSign;
        }
    }
}
