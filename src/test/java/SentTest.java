/** Promises 5 and 6: sent and when. */
public final class SentTest {
    private static final Bench BENCH = new Bench("SentTest");
    private static final int KEPT = 2000;
    private static final int ANSWER_LENGTH = 13;
    private static final int BURST_LENGTH = 21;
    private static final int ANSWER_TICK = 10;
    private static final int[] WRONG = {-1, -2, -KEPT, KEPT, Integer.MAX_VALUE, Integer.MIN_VALUE};

    public static void main(String[] args) {
        noneBeforeAByteWentOut();
        noneWhileItWaits();
        theFirstByteAlone();
        noneBehindTheLast();
        noneBeforeTheFirst();
        bytesAndTheirTicks();
        theFirstTickIsZero();
        ticksOfABurst();
        askingChangesNothing();
        allOfTwoThousand();
        oneMoreThanTwoThousand();
        manyMoreThanTwoThousand();
        BENCH.end();
    }

    private static void noneSuch(Device x, int i) {
        BENCH.due("sent(" + i + ")", x.sent(i), LoopDevice.NONE);
        BENCH.due("when(" + i + ")", x.when(i), LoopDevice.NONE);
    }

    /** "NONE when there is none such": none at all */
    private static void noneBeforeAByteWentOut() {
        Device x = Wire.device();
        noneSuch(x, 0);
        noneSuch(x, 1);
        for (int i : WRONG) {
            noneSuch(x, i);
        }
    }

    private static void noneWhileItWaits() {
        Device x = Wire.device();
        Wire.feed(x, Wire.request(Wire.shortAddress(0, 0), 13));
        noneSuch(x, 0);
        x.tick(1);
        noneSuch(x, 0);
    }

    /** "(0 the first)" */
    private static void theFirstByteAlone() {
        Device x = Wire.device();
        Wire.feed(x, Wire.request(Wire.shortAddress(0, 0), 13));
        x.tick(2);
        BENCH.due("sent(0)", x.sent(0), 255);
        BENCH.due("when(0)", x.when(0), 9);
        noneSuch(x, 1);
    }

    /** "NONE when there is none such": behind the last one */
    private static void noneBehindTheLast() {
        Device x = Wire.device();
        int total = Wire.feed(x, Wire.join(Wire.request(Wire.shortAddress(0, 0), 38), Wire.row(20, 0)));
        BENCH.due("bytes", total, 12);
        BENCH.due("the last one", x.sent(11), 6 ^ 128 ^ 38 ^ 2 ^ 32);
        BENCH.due("its tick", x.when(11), 9 + 11);
        noneSuch(x, 12);
        noneSuch(x, 13);
        noneSuch(x, Integer.MAX_VALUE);
    }

    /** "NONE when there is none such": before the first one */
    private static void noneBeforeTheFirst() {
        Device x = Wire.calmDevice();
        for (int i : WRONG) {
            noneSuch(x, i);
        }
    }

    private static void bytesAndTheirTicks() {
        Device x = Wire.device();
        x.tick(100);
        int[] own = Wire.shortAddress(1, 0);
        int[] request = Wire.request(own, 13);
        int[] due = Wire.answer(own, 13, 0, 96, 32, 32, 32, 32, 32, 32);
        BENCH.due("bytes", Wire.ask(x, request), due);
        int sumTick = 100 + request.length - 1;
        for (int i = 0; i < due.length; i++) {
            BENCH.due("when(" + i + ")", x.when(i), sumTick + 2 + i);
        }
    }

    /** "The tick in which byte i went out (0 the first tick)": the sum comes in tick 7 here. */
    private static void theFirstTickIsZero() {
        Device x = Wire.device();
        x.octets(0xFFFFFF02);
        x.octets(0x80000082);
        x.tick(2);
        BENCH.due("when(0)", x.when(0), 9);
        BENCH.due("now() is one more", x.now(), 10);
    }

    private static void ticksOfABurst() {
        Device x = bursting();
        x.tick(200);
        int burstTick = ANSWER_TICK + ANSWER_LENGTH + 8;
        BENCH.due("last byte of the answer", x.when(ANSWER_LENGTH - 1), ANSWER_TICK + ANSWER_LENGTH - 1);
        BENCH.due("first byte of burst 1", x.when(ANSWER_LENGTH), burstTick);
        BENCH.due("last byte of burst 1", x.when(ANSWER_LENGTH + BURST_LENGTH - 1), burstTick + BURST_LENGTH - 1);
        BENCH.due("first byte of burst 2", x.when(ANSWER_LENGTH + BURST_LENGTH), burstTick + BURST_LENGTH + 8);
    }

    private static void askingChangesNothing() {
        Device x = Wire.device();
        int[] request = Wire.request(Wire.shortAddress(0, 0), 38);
        for (int b : request) {
            x.octet(b);
            x.sent(0);
            x.when(0);
        }
        for (int i = 0; i < 12; i++) {
            x.tick(1);
            x.sent(i);
            x.when(i);
        }
        BENCH.due("what went out", x.tick(20), 12);
        BENCH.due("sent(5)", x.sent(5), 6);
        BENCH.due("sent(5) again", x.sent(5), 6);
        BENCH.due("when(5) again", x.when(5), 14);
    }

    /** A device that has been told to send bursts; its answer begins in tick 10. */
    private static Device bursting() {
        Device x = Wire.device();
        Wire.feed(x, Wire.request(Wire.shortAddress(0, 0), 109, 1));
        return x;
    }

    private static Device burstingUntil(int wanted) {
        Device x = bursting();
        int total = x.tick(1000);
        while (total + 1000 <= wanted) {
            total = x.tick(1000);
        }
        while (total + 100 <= wanted) {
            total = x.tick(100);
        }
        while (total < wanted) {
            total = x.tick(1);
        }
        BENCH.due("bytes", total, wanted);
        return x;
    }

    /** "(the latest 2000 are there)": so are all of 2000 */
    private static void allOfTwoThousand() {
        Device x = burstingUntil(KEPT);
        bytesOfBursts(x, 0, KEPT);
        noneSuch(x, KEPT);
        noneSuch(x, -1);
    }

    /** "(the latest 2000 are there)": of 2001 the first one is not */
    private static void oneMoreThanTwoThousand() {
        Device x = burstingUntil(KEPT + 1);
        noneSuch(x, 0);
        bytesOfBursts(x, 1, KEPT + 1);
        noneSuch(x, KEPT + 1);
    }

    /** "(the latest 2000 are there)": wherever they are held */
    private static void manyMoreThanTwoThousand() {
        int total = 3 * KEPT + 777;
        Device x = burstingUntil(total);
        noneSuch(x, 0);
        noneSuch(x, total - KEPT - 1);
        bytesOfBursts(x, total - KEPT, total);
        noneSuch(x, total);
        noneSuch(x, -1);
    }

    /** Behind the answer to 109 bursts of 21 bytes follow one another with eight ticks between. */
    private static void bytesOfBursts(Device x, int from, int to) {
        int[] own = Wire.inBurst(Wire.shortAddress(0, 0));
        int[] answer = Wire.answer(own, 109, 0, 96, 1);
        int[][] bursts = {Wire.burst(0, 1, 64, 0, 0, 0, 0, 0), Wire.burst(1, 1, 96, 0, 0, 0, 0, 0)};
        for (int i = from; i < to; i++) {
            int burst = (i - ANSWER_LENGTH) / BURST_LENGTH;
            int at = (i - ANSWER_LENGTH) % BURST_LENGTH;
            boolean answering = i < ANSWER_LENGTH;
            int tick = ANSWER_TICK + ANSWER_LENGTH + 8 + burst * (BURST_LENGTH + 8) + at;
            BENCH.due("sent(" + i + ")", x.sent(i), answering ? answer[i] : bursts[burst % 2][at]);
            BENCH.due("when(" + i + ")", x.when(i), answering ? ANSWER_TICK + i : tick);
        }
    }
}
