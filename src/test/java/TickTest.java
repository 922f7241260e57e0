/** Promises 4 and 11: tick and now. */
public final class TickTest {
    private static final Bench BENCH = new Bench("TickTest");

    public static void main(String[] args) {
        ordinaryNumbers();
        wrongNumbersChangeNothing();
        tellsWhatWentOut();
        manyAreAsManyTimesOne();
        nowCountsAllTicks();
        BENCH.end();
    }

    private static void ordinaryNumbers() {
        int[] numbers = {1, 2, 999, 1000};
        for (int n : numbers) {
            LoopDevice x = Wire.device();
            BENCH.due("tick(" + n + ")", x.tick(n), 0);
            BENCH.due("now() behind tick(" + n + ")", x.now(), n);
        }
    }

    private static void wrongNumbersChangeNothing() {
        int[] numbers = {0, -1, 1001, 2000, Integer.MAX_VALUE, Integer.MIN_VALUE};
        for (int n : numbers) {
            LoopDevice x = Wire.device();
            int[] request = Wire.request(Wire.shortAddress(0, 0), 13);
            for (int b : request) {
                x.octet(b);
                BENCH.due("tick(" + n + ")", x.tick(n), LoopDevice.NONE);
            }
            BENCH.due("now() with tick(" + n + ") between", x.now(), request.length);
            BENCH.due("good frames with tick(" + n + ") between", x.has(8), 1);
            BENCH.due("tick(3) behind", x.tick(3), 2);
        }
    }

    private static void tellsWhatWentOut() {
        LoopDevice x = Wire.device();
        Wire.feed(x, Wire.request(Wire.shortAddress(0, 0), 38));
        BENCH.due("the first tick behind the sum", x.tick(1), 0);
        BENCH.due("the second tick behind the sum", x.tick(1), 1);
        BENCH.due("five more", x.tick(5), 6);
        BENCH.due("all the rest", x.tick(1000), 12);
    }

    private static void manyAreAsManyTimesOne() {
        LoopDevice x = Wire.device();
        LoopDevice y = Wire.device();
        int[] request = Wire.request(Wire.longAddress(0), 109, 1);
        Wire.feed(x, request);
        Wire.feed(y, request);
        int one = 0;
        for (int i = 0; i < 300; i++) {
            one = y.tick(1);
        }
        BENCH.due("tick(300)", x.tick(300), one);
        BENCH.due("what went out", Wire.sentBetween(x, 0, one), Wire.sentBetween(y, 0, one));
    }

    private static void nowCountsAllTicks() {
        LoopDevice x = Wire.device();
        x.tick(10);
        x.octet(1);
        x.octets(1);
        x.tick(0);
        x.variable(0, 1);
        x.failure(true);
        x.sent(0);
        x.when(0);
        x.has(1);
        x.tag(1);
        BENCH.due("now()", x.now(), 15);
        BENCH.due("now() once more", x.now(), 15);
        for (int i = 0; i < 400; i++) {
            x.tick(1000);
        }
        BENCH.due("now() much later", x.now(), 400015);
    }
}
