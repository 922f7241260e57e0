/** Promises 4 and 11: tick and now. */
public final class TickTest {
    private static final Bench BENCH = new Bench("TickTest");
    private static final int[] WRONG = {0, -1, 1001, 1002, 2000, -1000, Integer.MAX_VALUE, Integer.MIN_VALUE};

    public static void main(String[] args) {
        smallestAndLargest();
        wrongNumbersAnswerNone();
        wrongNumbersPassNoTime();
        wrongNumbersBreakNoFrame();
        wrongNumbersSendNothing();
        wrongNumbersAreNoQuietTicks();
        noneComes();
        tellsWhatWentOut();
        manyAreAsManyTimesOne();
        nowCountsTicksAlone();
        nowMuchLater();
        BENCH.end();
    }

    /** "n ticks pass", for n of "1 .. 1000" */
    private static void smallestAndLargest() {
        int[] numbers = {1, 2, 500, 999, 1000};
        for (int n : numbers) {
            Device x = Wire.device();
            BENCH.due("tick(" + n + ")", x.tick(n), 0);
            BENCH.due("now() behind tick(" + n + ")", x.now(), n);
        }
    }

    /** "NONE when n is not 1 .. 1000" */
    private static void wrongNumbersAnswerNone() {
        for (int n : WRONG) {
            BENCH.due("tick(" + n + ")", Wire.device().tick(n), LoopDevice.NONE);
            Device x = Wire.calmDevice();
            BENCH.due("tick(" + n + ") where bytes went out", x.tick(n), LoopDevice.NONE);
        }
    }

    /** "(nothing changes)": the time */
    private static void wrongNumbersPassNoTime() {
        for (int n : WRONG) {
            Device x = Wire.device();
            x.tick(3);
            x.tick(n);
            BENCH.due("now() behind tick(" + n + ")", x.now(), 3);
        }
    }

    /** "(nothing changes)": a frame that has begun */
    private static void wrongNumbersBreakNoFrame() {
        for (int n : WRONG) {
            Device x = Wire.device();
            for (int b : Wire.request(Wire.shortAddress(0, 0), 13)) {
                x.octet(b);
                x.tick(n);
            }
            BENCH.due("good frames with tick(" + n + ") between", x.has(8), 1);
        }
    }

    /** "(nothing changes)": what goes out */
    private static void wrongNumbersSendNothing() {
        for (int n : WRONG) {
            Device x = Wire.device();
            Wire.feed(x, Wire.request(Wire.shortAddress(0, 0), 13));
            x.tick(n);
            BENCH.due("tick(3) behind tick(" + n + ")", x.tick(3), 2);
            x.tick(n);
            BENCH.due("tick(1) behind tick(" + n + ")", x.tick(1), 3);
        }
    }

    /** "(nothing changes)": the quiet before a burst */
    private static void wrongNumbersAreNoQuietTicks() {
        for (int n : WRONG) {
            Device x = Wire.device();
            int before = Wire.turnBurstOn(x);
            x.tick(4);
            x.tick(n);
            BENCH.due("eight quiet ticks with tick(" + n + ") between", x.tick(4), before);
            BENCH.due("the burst", x.tick(1), before + 1);
        }
    }

    /** "ticks pass in which none comes": a frame that has begun is broken by one of them. */
    private static void noneComes() {
        Device x = Wire.device();
        int[] request = Wire.request(Wire.shortAddress(0, 0), 13);
        for (int b : request) {
            x.octet(b);
            x.tick(1);
        }
        BENCH.due("good frames", x.has(8), 0);
        BENCH.due("now()", x.now(), 2 * request.length);
    }

    /** "how many bytes went out in all" */
    private static void tellsWhatWentOut() {
        Device x = Wire.device();
        Wire.feed(x, Wire.request(Wire.shortAddress(0, 0), 38));
        BENCH.due("the first tick behind the sum", x.tick(1), 0);
        BENCH.due("the second tick behind the sum", x.tick(1), 1);
        BENCH.due("five more", x.tick(5), 6);
        BENCH.due("all the rest", x.tick(1000), 12);
        BENCH.due("no more", x.tick(1), 12);
    }

    private static void manyAreAsManyTimesOne() {
        Device x = Wire.device();
        Device y = Wire.device();
        int[] request = Wire.request(Wire.longAddress(0), 109, 1);
        Wire.feed(x, request);
        Wire.feed(y, request);
        int one = 0;
        for (int i = 0; i < 300; i++) {
            one = y.tick(1);
        }
        BENCH.due("tick(300)", x.tick(300), one);
        BENCH.due("what went out", Wire.sentBetween(x, 0, one), Wire.sentBetween(y, 0, one));
    }

    /** "How many ticks are over." */
    private static void nowCountsTicksAlone() {
        Device x = Wire.device();
        x.tick(10);
        x.octet(1);
        x.octets(1);
        BENCH.due("now()", x.now(), 15);
        BENCH.due("now() once more", x.now(), 15);
        x.variable(0, 1);
        x.failure(true);
        x.sent(0);
        x.when(0);
        x.has(1);
        x.tag(1);
        BENCH.due("now() behind calls that take no time", x.now(), 15);
    }

    /** The most ticks that the promised calls can pass, but for the one that asks. */
    private static void nowMuchLater() {
        Device x = Wire.device();
        for (int i = 0; i < Device.MOST_CALLS - 1; i++) {
            x.tick(1000);
        }
        BENCH.due("now() much later", x.now(), 511000);
    }
}
