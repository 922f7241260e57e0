import java.util.Random;

/**
 * Runs of 512 calls from fixed seeds: no call throws, the same calls give the same answers, and all
 * that goes out is whole frames.
 */
public final class RandomRunsTest {
    private static final Bench BENCH = new Bench("RandomRunsTest");
    private static final int[] COMMANDS = {0, 1, 2, 3, 6, 11, 13, 18, 35, 38, 48, 108, 109, 109, 109, 77};

    public static void main(String[] args) {
        for (int seed = 0; seed < 300; seed++) {
            run(seed);
        }
        BENCH.end();
    }

    private static void run(int seed) {
        Random random = new Random(seed);
        LoopDevice x = Wire.device();
        LoopDevice y = Wire.device();
        int calls = 0;
        while (calls < 480) {
            calls += random.nextInt(3) == 0 ? frame(random, x, y) : call(random, x, y);
        }
        for (int what = 0; what < 10; what++) {
            BENCH.due("seed " + seed + " has(" + what + ")", x.has(what), y.has(what));
        }
        wholeFrames(seed, x);
    }

    private static int frame(Random random, LoopDevice x, LoopDevice y) {
        int[] count = {0, 0, 0, 0, 1, 6, 0, 6, 9, 0, 0, 1, 1, 1, 1, 3};
        int which = random.nextInt(COMMANDS.length);
        int[] data = new int[count[which]];
        for (int i = 0; i < data.length; i++) {
            data[i] = random.nextInt(4);
        }
        int[] own = Wire.longAddress(random.nextInt(2));
        int[] request = Wire.request(own, COMMANDS[which], data);
        if (random.nextInt(10) == 0) {
            request[random.nextInt(request.length)] = random.nextInt(256);
        }
        for (int b : request) {
            BENCH.due("octet(" + b + ")", x.octet(b), y.octet(b | 0x5500));
        }
        return request.length;
    }

    private static int number(Random random) {
        switch (random.nextInt(4)) {
            case 0: return random.nextInt();
            case 1: return Integer.MAX_VALUE - random.nextInt(2) * Integer.MIN_VALUE;
            case 2: return random.nextInt(3000) - 500;
            default: return random.nextInt(12) - 1;
        }
    }

    private static int call(Random random, LoopDevice x, LoopDevice y) {
        int n = number(random);
        int v = number(random);
        switch (random.nextInt(10)) {
            case 0: BENCH.due("octet(" + n + ")", x.octet(n), y.octet(n)); break;
            case 1: BENCH.due("octets(" + n + ")", x.octets(n), y.octets(n)); break;
            case 2: BENCH.due("tick(" + n + ")", x.tick(n), y.tick(n)); break;
            case 3: BENCH.due("sent(" + n + ")", x.sent(n), y.sent(n)); break;
            case 4: BENCH.due("when(" + n + ")", x.when(n), y.when(n)); break;
            case 5: BENCH.due("variable(" + n + ")", x.variable(n, v), y.variable(n, v)); break;
            case 6: BENCH.due("failure()", x.failure(n > 0), y.failure(n > 0)); break;
            case 7: BENCH.due("has(" + n + ")", x.has(n), y.has(n)); break;
            case 8: BENCH.due("tag(" + n + ")", x.tag(n), y.tag(n)); break;
            default: BENCH.due("now()", x.now(), y.now()); break;
        }
        return 1;
    }

    /** Reads what went out as a master would; the frame that is still being sent is left alone. */
    private static void wholeFrames(int seed, LoopDevice x) {
        int total = x.tick(40);
        int at = Math.max(0, total - 2000);
        if (at > 0) {
            return;
        }
        while (at < total) {
            int mark = x.sent(at + 5);
            int head = at + 5 + (mark == 6 ? 2 : 6);
            int end = head + 2 + x.sent(head + 1);
            if (end >= total) {
                return;
            }
            int sum = 0;
            for (int i = at; i <= end; i++) {
                if (i < at + 5) {
                    BENCH.due("seed " + seed + " preamble at " + i, x.sent(i), 255);
                } else {
                    sum ^= x.sent(i);
                }
                BENCH.due("seed " + seed + " tick at " + i, x.when(i), x.when(at) + i - at);
            }
            BENCH.due("seed " + seed + " sum of the frame at " + at, sum, 0);
            at = end + 1;
        }
    }
}
