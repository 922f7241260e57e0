/** Promises 7, 8, 9 and 10: variable, failure, has and tag. */
public final class HoldingsTest {
    private static final Bench BENCH = new Bench("HoldingsTest");
    private static final int[] OTHERS = {-1, -2, 100, Integer.MAX_VALUE, Integer.MIN_VALUE};

    public static void main(String[] args) {
        variableTellsWhatWasBefore();
        variablesAreApart();
        noOtherVariables();
        failureTellsWhetherItChanged();
        failureIsInTheStatus();
        hasTellsSettings();
        hasCounts();
        answersCountInTheTickOfTheSum();
        burstsCountWithTheirFirstByte();
        hasNoOthers();
        tagBytes();
        BENCH.end();
    }

    private static void variableTellsWhatWasBefore() {
        LoopDevice x = Wire.device();
        BENCH.due("variable(0, 5)", x.variable(0, 5), 0);
        BENCH.due("variable(0, -1)", x.variable(0, -1), 5);
        BENCH.due("variable(0, MIN)", x.variable(0, Integer.MIN_VALUE), -1);
        BENCH.due("variable(0, MAX)", x.variable(0, Integer.MAX_VALUE), Integer.MIN_VALUE);
        BENCH.due("variable(0, 0)", x.variable(0, 0), Integer.MAX_VALUE);
        BENCH.due("now()", x.now(), 0);
    }

    private static void variablesAreApart() {
        LoopDevice x = Wire.device();
        for (int i = 0; i < 4; i++) {
            BENCH.due("variable " + i + " at first", x.variable(i, 10 + i), 0);
        }
        for (int i = 3; i >= 0; i--) {
            BENCH.due("variable " + i, x.variable(i, 0), 10 + i);
        }
    }

    private static void noOtherVariables() {
        LoopDevice x = Wire.device();
        for (int i : OTHERS) {
            BENCH.due("variable(" + i + ", 7)", x.variable(i, 7), LoopDevice.NONE);
        }
        BENCH.due("variable(4, 7)", x.variable(4, 7), LoopDevice.NONE);
        for (int i = 0; i < 4; i++) {
            BENCH.due("variable " + i + " behind wrong ones", x.variable(i, 0), 0);
        }
    }

    private static void failureTellsWhetherItChanged() {
        LoopDevice x = Wire.device();
        BENCH.due("failure(false) at first", x.failure(false), 0);
        BENCH.due("failure(true)", x.failure(true), 1);
        BENCH.due("failure(true) again", x.failure(true), 0);
        BENCH.due("failure(false)", x.failure(false), 1);
        BENCH.due("failure(false) again", x.failure(false), 0);
        BENCH.due("now()", x.now(), 0);
    }

    private static void failureIsInTheStatus() {
        LoopDevice x = Wire.calmDevice();
        int[] own = Wire.longAddress(0);
        x.failure(true);
        BENCH.due("status with a failure", Wire.ask(x, Wire.request(own, 38)), Wire.answer(own, 38, 0, 128));
        x.failure(false);
        BENCH.due("status without", Wire.ask(x, Wire.request(own, 38)), Wire.answer(own, 38, 0, 0));
    }

    private static void hasTellsSettings() {
        LoopDevice x = Wire.device();
        int[] own = Wire.longAddress(0);
        Wire.ask(x, Wire.request(own, 6, 15));
        BENCH.due("short address", x.has(0), 15);
        int[] ends = Wire.join(new int[] {200}, Wire.four(Integer.MAX_VALUE), Wire.four(Integer.MIN_VALUE));
        Wire.ask(x, Wire.request(own, 35, ends));
        BENCH.due("unit", x.has(1), 200);
        BENCH.due("lower end", x.has(2), Integer.MIN_VALUE);
        BENCH.due("upper end", x.has(3), Integer.MAX_VALUE);
        Wire.ask(x, Wire.request(own, 108, 3));
        BENCH.due("burst's command", x.has(5), 3);
        Wire.askBriefly(x, Wire.request(own, 109, 1));
        BENCH.due("burst on", x.has(4), 1);
        Wire.askBriefly(x, Wire.request(own, 109, 0));
        BENCH.due("burst off", x.has(4), 0);
    }

    private static void hasCounts() {
        LoopDevice x = Wire.device();
        int[] own = Wire.shortAddress(0, 0);
        Wire.ask(x, Wire.request(own, 13));
        Wire.ask(x, Wire.request(own, 200));
        Wire.ask(x, Wire.request(Wire.broadcast(0), 11, 1, 2, 3, 4, 5, 6));
        Wire.ask(x, Wire.request(Wire.shortAddress(0, 1), 13));
        BENCH.due("answers", x.has(6), 2);
        BENCH.due("bursts", x.has(7), 0);
        BENCH.due("good frames", x.has(8), 3);
        BENCH.due("frames that were not good", x.has(9), 1);
        Wire.feed(x, Wire.request(own, 109, 1));
        x.tick(2 + 13 + 29 + 9);
        BENCH.due("answers with burst", x.has(6), 3);
        BENCH.due("bursts with burst", x.has(7), 2);
    }

    private static void answersCountInTheTickOfTheSum() {
        LoopDevice x = Wire.device();
        int[] request = Wire.request(Wire.shortAddress(0, 0), 13);
        for (int i = 0; i < request.length; i++) {
            BENCH.due("answers before byte " + i, x.has(6), 0);
            BENCH.due("good frames before byte " + i, x.has(8), 0);
            x.octet(request[i]);
        }
        BENCH.due("answers behind the sum", x.has(6), 1);
        BENCH.due("good frames behind the sum", x.has(8), 1);
        x.tick(30);
        BENCH.due("answers behind the answer", x.has(6), 1);
    }

    private static void burstsCountWithTheirFirstByte() {
        LoopDevice x = Wire.device();
        Wire.askBriefly(x, Wire.request(Wire.shortAddress(0, 0), 109, 1));
        x.tick(7);
        BENCH.due("bursts behind eight quiet ticks", x.has(7), 0);
        x.tick(1);
        BENCH.due("bursts with the first byte", x.has(7), 1);
        x.tick(28);
        BENCH.due("bursts before the next", x.has(7), 1);
        x.tick(1);
        BENCH.due("bursts with the next", x.has(7), 2);
    }

    private static void hasNoOthers() {
        LoopDevice x = Wire.device();
        for (int what : OTHERS) {
            BENCH.due("has(" + what + ")", x.has(what), LoopDevice.NONE);
        }
        BENCH.due("has(10)", x.has(10), LoopDevice.NONE);
    }

    private static void tagBytes() {
        LoopDevice x = Wire.device();
        for (int i : OTHERS) {
            BENCH.due("tag(" + i + ")", x.tag(i), LoopDevice.NONE);
        }
        BENCH.due("tag(6)", x.tag(6), LoopDevice.NONE);
        int[] tag = {0, 255, 1, 128, 127, 65};
        Wire.ask(x, Wire.request(Wire.shortAddress(1, 0), 18, tag));
        for (int i = 0; i < tag.length; i++) {
            BENCH.due("tag(" + i + ")", x.tag(i), tag[i]);
        }
        BENCH.due("tag(6) behind a new tag", x.tag(6), LoopDevice.NONE);
    }
}
