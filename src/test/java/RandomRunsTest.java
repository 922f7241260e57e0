import java.util.Random;

/**
 * Runs of up to 512 calls from fixed seeds, on the class and on the model: every answer is the same,
 * and so is all that the device has and has sent behind them.
 */
public final class RandomRunsTest {
    private static final Bench BENCH = new Bench("RandomRunsTest");
    private static final int RUNS = 600;
    private static final int[] COMMANDS = {0, 1, 2, 3, 6, 11, 13, 18, 35, 38, 48, 108, 109, 109};
    private static final int[] COUNTS = {0, 0, 0, 0, 1, 6, 0, 6, 9, 0, 0, 1, 1, 1};
    private static final int[] EDGES = {0, 1, -1, 2, 3, 4, 5, 6, 9, 10, 11, 999, 1000, 1001, 1999, 2000, 2001,
        9999, 10000, 10001, Integer.MAX_VALUE, Integer.MIN_VALUE, 0x7FFFFF00, 0x80FF0282};

    private final Random random;
    private final Device x;
    private final Model m;
    private final String run;
    private final int[] own;

    private RandomRunsTest(int seed) {
        random = new Random(seed);
        run = "run " + seed + ": ";
        boolean zeros = random.nextInt(20) == 0;
        int maker = zeros ? 64 : random.nextInt();
        int kind = zeros ? 256 : random.nextInt();
        int number = zeros ? 1 << 24 : random.nextInt();
        x = new Device(maker, kind, number);
        m = new Model(maker, kind, number);
        own = new int[] {maker & 63, kind & 255, number >> 16 & 255, number >> 8 & 255, number & 255};
    }

    public static void main(String[] args) {
        for (int seed = 0; seed < RUNS; seed++) {
            new RandomRunsTest(seed).go();
        }
        BENCH.end();
    }

    private boolean oneOf(int chances) {
        return random.nextInt(chances) == 0;
    }

    private void go() {
        while (x.changesLeft() > 60) {
            switch (random.nextInt(8)) {
                case 0, 1, 2, 3: frame(); break;
                case 4, 5: quiet(); break;
                case 6: setting(); break;
                default: anyCall(); break;
            }
        }
        compareAll();
    }

    private void octet(int b) {
        BENCH.due(run + "octet(" + b + ")", x.octet(b), m.octet(b));
    }

    private void octets(int w) {
        BENCH.due(run + "octets(" + w + ")", x.octets(w), m.octets(w));
    }

    private void tick(int n) {
        BENCH.due(run + "tick(" + n + ")", x.tick(n), m.tick(n));
    }

    private void feed(int[] bytes) {
        int at = 0;
        while (at + 4 <= bytes.length && !oneOf(6)) {
            octets(bytes[at] << 24 | bytes[at + 1] << 16 | bytes[at + 2] << 8 | bytes[at + 3]);
            at += 4;
        }
        while (at < bytes.length) {
            octet(bytes[at] | random.nextInt() << 8);
            at++;
            if (oneOf(60)) {
                tick(random.nextInt(3) == 0 ? 1 : random.nextInt(2) * 1001);
            }
        }
    }

    private int[] address() {
        int bits = random.nextInt(4) << 6;
        switch (random.nextInt(8)) {
            case 0, 1, 2: return new int[] {bits | (int) m.has(0)};
            case 3: return new int[] {bits | random.nextInt(64)};
            case 4: return new int[] {bits, 0, 0, 0, 0};
            default: return new int[] {bits | own[0], own[1], own[2], own[3], own[4]};
        }
    }

    private int[] data(int command, int count) {
        int[] data = new int[count];
        for (int i = 0; i < count; i++) {
            data[i] = oneOf(3) ? random.nextInt(256) : random.nextInt(5);
        }
        if (command == 11 && count == 6 && !oneOf(3)) {
            for (int i = 0; i < 6; i++) {
                data[i] = m.tag(i);
            }
            data[random.nextInt(6)] ^= oneOf(3) ? 1 << random.nextInt(8) : 0;
        }
        if (command == 35 && count == 9 && oneOf(2)) {
            return Wire.join(new int[] {data[0]}, Wire.four(number()), Wire.four(number()));
        }
        return data;
    }

    private void frame() {
        int which = random.nextInt(COMMANDS.length);
        int command = oneOf(25) ? random.nextInt(256) : COMMANDS[which];
        int count = oneOf(25) ? random.nextInt(21) : COUNTS[which];
        int[] bytes = Wire.request(address(), command, data(command, count));
        if (oneOf(12)) {
            bytes[random.nextInt(bytes.length)] = random.nextInt(256);
        }
        feed(Wire.join(Wire.row(oneOf(3) ? random.nextInt(6) : 0, oneOf(5) ? random.nextInt(256) : 255), bytes));
        if (!oneOf(5)) {
            tick(1 + random.nextInt(50));
        }
    }

    private void quiet() {
        int[] lengths = {1, 2, 7, 8, 9, 10, 13, 14, 29, 30, 37, 100, 1000};
        tick(lengths[random.nextInt(lengths.length)]);
        if (oneOf(3)) {
            octet(oneOf(2) ? 255 : random.nextInt(256));
        }
    }

    private int number() {
        int edge = EDGES[random.nextInt(EDGES.length)];
        switch (random.nextInt(4)) {
            case 0: return random.nextInt();
            case 1: return edge;
            case 2: return edge + random.nextInt(5) - 2;
            default: return random.nextInt(20000) - 5000;
        }
    }

    private void setting() {
        int i = oneOf(8) ? number() : random.nextInt(6) - 1;
        int v = number();
        boolean on = oneOf(2);
        if (oneOf(4)) {
            BENCH.due(run + "failure(" + on + ")", x.failure(on), m.failure(on));
        } else {
            BENCH.due(run + "variable(" + i + ", " + v + ")", x.variable(i, v), m.variable(i, v));
        }
    }

    private void anyCall() {
        int n = number();
        int near = m.total() - 2000 * random.nextInt(2) + random.nextInt(5) - 2;
        switch (random.nextInt(7)) {
            case 0: tick(n); break;
            case 1: octets(n); break;
            case 2: compareSent(n); break;
            case 3: compareSent(near); break;
            case 4: BENCH.due(run + "has(" + n + ")", x.has(n), m.has(n)); break;
            case 5: BENCH.due(run + "tag(" + n + ")", x.tag(n), m.tag(n)); break;
            default: BENCH.due(run + "now()", x.now(), m.now()); break;
        }
    }

    private void compareSent(int i) {
        BENCH.due(run + "sent(" + i + ")", x.sent(i), m.sent(i));
        BENCH.due(run + "when(" + i + ")", x.when(i), m.when(i));
    }

    private void compareAll() {
        for (int what = -1; what <= 10; what++) {
            BENCH.due(run + "has(" + what + ")", x.has(what), m.has(what));
        }
        for (int i = -1; i <= 6; i++) {
            BENCH.due(run + "tag(" + i + ")", x.tag(i), m.tag(i));
        }
        BENCH.due(run + "now()", x.now(), m.now());
        int total = m.total();
        for (int i = Math.max(-1, total - 2002); i < total + 2; i++) {
            compareSent(i);
        }
    }
}
