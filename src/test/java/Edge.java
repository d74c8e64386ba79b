import java.util.LinkedHashMap;
import java.util.Map;

/**
 * Calls at a boundary, with ALL that they change: what is named as due changes, and nothing else.
 * Due is written "P=65 A=0 [100]=7 8.flag=1"; memory is held by sum(), so that one object stays under 512 calls.
 */
final class Edge {
    static final int MIN = Integer.MIN_VALUE, MAX = Integer.MAX_VALUE;

    private static final String[] STATE = {"A", "B", "P", "E", "O", "on", "held", "halted", "code", "lamps", "turns", "served", "latest"};
    private static final String[] OF_CHANNEL = {"control", "flag", "asks", "active", "address", "count", "in", "first", "moved"};
    private static final String[] OF_DEVICE = {"control", "flag", "asks", "busy", "buffer", "tape", "in", "delay", "out"};

    private Edge() {
    }

    static void changes(String what, OctalHouse x, String due, Runnable made) {
        Map<String, Integer> want = look(x);
        Map<Integer, Integer> words = new LinkedHashMap<>();
        int sum = x.sum();
        for (String part : due.trim().split(" +")) {
            if (part.isEmpty()) {
                continue;
            }
            int middle = part.indexOf('=');
            String name = part.substring(0, middle);
            int v = Integer.parseInt(part.substring(middle + 1));
            int address = addressOf(name);
            if (address >= 0) {
                sum += (v - x.word(address)) * weight(address);
                words.put(address, v);
            }
            if (!name.startsWith("[") && want.replace(name, v) == null) {
                throw new IllegalArgumentException("nothing is called " + name);
            }
        }
        made.run();
        Map<String, Integer> got = look(x);
        for (String name : want.keySet()) {
            Check.due(what + ": " + name, got.get(name), want.get(name));
        }
        for (int address : words.keySet()) {
            Check.due(what + ": word(" + address + ")", x.word(address), words.get(address));
        }
        Check.due(what + ": sum", x.sum(), sum);
    }

    /** One TURN. */
    static void step(String what, OctalHouse x, String due) {
        turns(what, x, 1, due);
    }

    static void turns(String what, OctalHouse x, int n, String due) {
        changes(what, x, due + " turns=" + (x.state(10) + n), () -> Check.due(what + ": run(" + n + ")", x.run(n), n));
    }

    /** A call that is refused changes nothing. */
    static void refused(String what, OctalHouse x, Class<? extends RuntimeException> e, Runnable made) {
        changes(what, x, "", () -> Check.fails(what, e, made));
    }

    /** CONTROL, FLAG and ASKS of these codes are set, the interrupt system is on, nothing is HELD OFF or BUSY: the next TURN serves. */
    static OctalHouse asking(int... codes) {
        int[] program = new int[2 * codes.length + 2];
        for (int i = 0; i < codes.length; i++) {
            program[2 * i] = Asm.stc(codes[i]);
            program[2 * i + 1] = Asm.stf(codes[i]);
        }
        program[program.length - 2] = Asm.stf(0);
        OctalHouse x = Asm.with(program);
        for (int d = 0; d < 4; d++) {
            x.device(d, true, 100);
        }
        x.run(program.length);
        for (int d = 0; d < 4; d++) {
            x.device(d, true, 1);
        }
        return x;
    }

    private static int addressOf(String name) {
        if (name.startsWith("[")) {
            return Integer.parseInt(name.substring(1, name.length() - 1));
        }
        return name.equals("A") ? 0 : name.equals("B") ? 1 : -1;
    }

    private static int weight(int address) {
        int w = 1;
        for (int i = address; i < 4095; i++) {
            w *= 31;
        }
        return w;
    }

    private static Map<String, Integer> look(OctalHouse x) {
        Map<String, Integer> seen = new LinkedHashMap<>();
        for (int what = 0; what < STATE.length; what++) {
            seen.put(STATE[what], x.state(what));
        }
        for (int sc = 6; sc <= 11; sc++) {
            for (int what = 0; what <= 8; what++) {
                seen.put(sc + "." + (sc < 8 ? OF_CHANNEL : OF_DEVICE)[what], x.code(sc, what));
            }
        }
        return seen;
    }
}
