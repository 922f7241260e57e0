import java.lang.management.ManagementFactory;

/** The limits: "An object is used for at most 512 calls", and what so many calls may make. */
public final class LimitTest {
    private static final Bench BENCH = new Bench("LimitTest");
    private static final int MOST_CALLS = 512;
    /** Far below the room of a run, and far above one object with its rows. */
    private static final long MOST_BYTES = 200_000;

    public static void main(String[] args) {
        theLastCallsAreAsTheFirst();
        theLastCallsMayBeTheDearest();
        dearCallsMakeNothing();
        answersAreToldAsOneByte();
        BENCH.end();
    }

    /** The last frame's sum comes in call 509; its answer goes out in call 510. */
    private static void theLastCallsAreAsTheFirst() {
        LoopDevice x = new LoopDevice(Wire.MAKER, Wire.KIND, Wire.NUMBER);
        for (int call = 1; call <= 507; call++) {
            BENCH.due("octet in call " + call, x.octet(17), 0);
        }
        BENCH.due("octets in call 508", x.octets(0xFFFFFF02), 0);
        BENCH.due("octets in call 509", x.octets(0x80000082), 0);
        BENCH.due("tick in call 510", x.tick(1000), 19);
        BENCH.due("sent in call 511", x.sent(18), 22);
        BENCH.due("when in call 512", x.when(18), 507 + 8 + 1 + 18);
    }

    /** The most ticks and the most bytes that an object can be asked for. */
    private static void theLastCallsMayBeTheDearest() {
        LoopDevice x = new LoopDevice(Wire.MAKER, Wire.KIND, Wire.NUMBER);
        int calls = turnBurstOn(x);
        int total = 0;
        while (calls < MOST_CALLS - 3) {
            total = x.tick(1000);
            calls++;
        }
        int ticks = 9 + 1000 * (calls - 9);
        // Behind the answer's 13 bytes each burst takes eight quiet ticks and 21 with a byte.
        int inBursts = ticks - 10 - 13;
        int due = 13 + inBursts / 29 * 21 + Math.max(0, inBursts % 29 - 8);
        BENCH.due("bytes in all", total, due);
        BENCH.due("now()", x.now(), ticks);
        BENCH.due("the last byte is there", x.sent(due - 1) >= 0 ? 1 : 0, 1);
        BENCH.due("the eldest that is there", x.when(due - 2000) > 0 ? 1 : 0, 1);
    }

    /** Turns BURST on by nine single bytes: how many calls that took. */
    private static int turnBurstOn(LoopDevice x) {
        int[] request = Wire.request(Wire.shortAddress(0, 0), 109, 1);
        for (int b : request) {
            x.octet(b);
        }
        return request.length;
    }

    /** All calls of a run live in one room: one whole run makes little more than the object's rows. */
    private static void dearCallsMakeNothing() {
        var threads = (com.sun.management.ThreadMXBean) ManagementFactory.getThreadMXBean();
        if (!threads.isThreadAllocatedMemorySupported()) {
            return;
        }
        aWholeRun();
        long before = threads.getThreadAllocatedBytes(Thread.currentThread().getId());
        aWholeRun();
        long after = threads.getThreadAllocatedBytes(Thread.currentThread().getId());
        BENCH.due("a run makes little: " + (after - before) + " bytes", after - before < MOST_BYTES ? 1 : 0, 1);
    }

    private static void aWholeRun() {
        LoopDevice x = new LoopDevice(Wire.MAKER, Wire.KIND, Wire.NUMBER);
        int calls = turnBurstOn(x);
        while (calls < MOST_CALLS - 10) {
            x.tick(1000);
            x.octets(0xFFFFFF02);
            x.octets(0x80030081);
            x.tick(30);
            x.variable(calls % 4, calls);
            x.failure(calls % 2 == 0);
            x.sent(calls);
            x.when(calls);
            x.has(calls % 10);
            x.tag(calls % 6);
            calls += 10;
        }
    }

    /**
     * "the number of answers so far, with this one, as one byte (modulo 256)": 512 calls reach no more
     * than 170 answers, so this alone goes on behind them, where the document leaves all answers free.
     */
    private static void answersAreToldAsOneByte() {
        LoopDevice x = new LoopDevice(Wire.MAKER, Wire.KIND, Wire.NUMBER);
        int total = 0;
        for (int answer = 1; answer <= 258; answer++) {
            x.octets(0xFFFFFF02);
            x.octets(0x803000B2);
            total = x.tick(20);
            BENCH.due("answer " + answer, x.sent(total - 2), answer & 255);
        }
        BENCH.due("has(6) is not cut", x.has(6), 258);
    }
}
