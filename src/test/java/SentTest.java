/** Promises 5 and 6: sent and when. */
public final class SentTest {
    private static final Bench BENCH = new Bench("SentTest");
    private static final int KEPT = 2000;

    public static void main(String[] args) {
        noneBeforeAByteWentOut();
        bytesAndTheirTicks();
        ticksOfABurst();
        latestAreKept();
        BENCH.end();
    }

    private static void noneSuch(LoopDevice x, int i) {
        BENCH.due("sent(" + i + ")", x.sent(i), LoopDevice.NONE);
        BENCH.due("when(" + i + ")", x.when(i), LoopDevice.NONE);
    }

    private static void noneBeforeAByteWentOut() {
        LoopDevice x = Wire.device();
        int[] others = {0, 1, -1, KEPT, Integer.MAX_VALUE, Integer.MIN_VALUE};
        for (int i : others) {
            noneSuch(x, i);
        }
        Wire.feed(x, Wire.request(Wire.shortAddress(0, 0), 13));
        x.tick(1);
        noneSuch(x, 0);
        x.tick(1);
        BENCH.due("sent(0)", x.sent(0), 255);
        noneSuch(x, 1);
    }

    private static void bytesAndTheirTicks() {
        LoopDevice x = Wire.device();
        x.tick(100);
        int[] own = Wire.shortAddress(1, 0);
        int[] request = Wire.request(own, 13);
        int[] due = Wire.answer(own, 13, 0, 96, 32, 32, 32, 32, 32, 32);
        BENCH.due("bytes", Wire.ask(x, request), due);
        int sumTick = 100 + request.length - 1;
        for (int i = 0; i < due.length; i++) {
            BENCH.due("when(" + i + ")", x.when(i), sumTick + 2 + i);
        }
        noneSuch(x, due.length);
        noneSuch(x, -1);
    }

    private static void ticksOfABurst() {
        LoopDevice x = Wire.device();
        int[] request = Wire.request(Wire.shortAddress(0, 0), 109, 1);
        Wire.feed(x, request);
        x.tick(200);
        int answerLength = 13;
        int burstLength = 21;
        int burstTick = request.length - 1 + 2 + answerLength + 8;
        BENCH.due("first byte of burst 1", x.when(answerLength), burstTick);
        BENCH.due("last byte of burst 1", x.when(answerLength + burstLength - 1), burstTick + burstLength - 1);
        BENCH.due("first byte of burst 2", x.when(answerLength + burstLength), burstTick + burstLength + 8);
    }

    private static void latestAreKept() {
        LoopDevice x = Wire.device();
        Wire.feed(x, Wire.request(Wire.shortAddress(0, 0), 109, 1));
        x.tick(1000);
        x.tick(1000);
        int total = x.tick(700);
        BENCH.due("below 2000 all are there", x.sent(0), 255);
        BENCH.due("below 2000 all are there", x.when(0), 10);
        BENCH.due("fewer than 2000", total < KEPT ? 1 : 0, 1);
        while (total < KEPT) {
            total = x.tick(1);
        }
        BENCH.due("the first of 2000", x.sent(0), 255);
        BENCH.due("the first of 2000", x.when(0), 10);
        BENCH.due("the last of 2000", x.sent(KEPT - 1) >= 0 ? 1 : 0, 1);
        BENCH.due("the last of 2000", x.when(KEPT - 1), x.now() - 1);
        noneSuch(x, KEPT);
        while (total == KEPT) {
            total = x.tick(1);
        }
        BENCH.due("one more", total, KEPT + 1);
        noneSuch(x, 0);
        BENCH.due("the first of the latest 2000", x.sent(1), 255);
        BENCH.due("the first of the latest 2000", x.when(1), 11);
        BENCH.due("the last of the latest 2000", x.when(KEPT), x.now() - 1);
        noneSuch(x, KEPT + 1);
        int mark = 5;
        BENCH.due("a byte that is still there", x.sent(mark), 6);
        total = x.tick(1000);
        noneSuch(x, mark);
        noneSuch(x, total - KEPT - 1);
        BENCH.due("the eldest has its tick", x.when(total - KEPT) > 0 ? 1 : 0, 1);
        BENCH.due("the eldest is there", x.sent(total - KEPT) >= 0 ? 1 : 0, 1);
        BENCH.due("the latest is there", x.sent(total - 1) >= 0 ? 1 : 0, 1);
        noneSuch(x, total);
        burstsStayWholeAcrossTheRow(x, total);
    }

    /** Bursts of 21 bytes follow an answer of 13: each begins where that says, wherever it is held. */
    private static void burstsStayWholeAcrossTheRow(LoopDevice x, int total) {
        for (int i = total - KEPT; i < total; i++) {
            int inBurst = (i - 13) % 21;
            if (inBurst < 5) {
                BENCH.due("preamble byte " + i, x.sent(i), 255);
            }
            if (inBurst == 5) {
                BENCH.due("mark " + i, x.sent(i), 129);
            }
            BENCH.due("tick of byte " + i, x.when(i), 10 + 13 + 8 + (i - 13) / 21 * 29 + inBurst);
        }
    }
}
