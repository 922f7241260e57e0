/** When and how an answer goes out, and its status. */
public final class AnswersTest {
    private static final Bench BENCH = new Bench("AnswersTest");

    public static void main(String[] args) {
        beginsInTheSecondTick();
        addressesComeBack();
        bitSixTellsBurst();
        coldIsToldOncePerMaster();
        coldIsToldByEveryCode();
        changedPerMaster();
        outsideTheEnds();
        codesComeWithoutData();
        stateIsThatOfTheSum();
        bytesWhileItSendsAreNotLookedAt();
        framesBehindAnAnswer();
        broadcastAnswer();
        noAnswerToOthers();
        BENCH.end();
    }

    private static void beginsInTheSecondTick() {
        LoopDevice x = Wire.device();
        int[] request = Wire.request(Wire.shortAddress(0, 0), 13);
        BENCH.due("bytes with the sum", Wire.feed(x, request), 0);
        BENCH.due("bytes in the first tick", x.tick(1), 0);
        BENCH.due("bytes in the second tick", x.tick(1), 1);
        BENCH.due("tick of the first byte", x.when(0), request.length + 1);
    }

    private static void addressesComeBack() {
        for (int master = 0; master < 2; master++) {
            for (int bit = 0; bit <= 64; bit += 64) {
                int[] own = Wire.shortAddress(master, 0);
                int[] asked = {own[0] | bit};
                BENCH.due("short address, master " + master + ", bit " + bit,
                        Wire.ask(Wire.device(), Wire.request(asked, 38)), Wire.answer(own, 38, 0, 32));
                own = Wire.longAddress(master);
                asked = own.clone();
                asked[0] |= bit;
                BENCH.due("long address, master " + master + ", bit " + bit,
                        Wire.ask(Wire.device(), Wire.request(asked, 38)), Wire.answer(own, 38, 0, 32));
            }
        }
    }

    private static void bitSixTellsBurst() {
        LoopDevice x = Wire.calmDevice();
        int[] own = Wire.shortAddress(1, 0);
        BENCH.due("the answer that turns it on", Wire.askBriefly(x, Wire.request(own, 109, 1)),
                Wire.answer(Wire.inBurst(own), 109, 0, 64, 1));
        BENCH.due("an answer while it is on", Wire.askBriefly(x, Wire.request(own, 38)),
                Wire.answer(Wire.inBurst(own), 38, 0, 0));
        int[] wide = Wire.longAddress(1);
        BENCH.due("a long address while it is on", Wire.askBriefly(x, Wire.request(wide, 38)),
                Wire.answer(Wire.inBurst(wide), 38, 0, 0));
        BENCH.due("the answer that turns it off", Wire.askBriefly(x, Wire.request(own, 109, 0)),
                Wire.answer(own, 109, 0, 64, 0));
    }

    private static void coldIsToldOncePerMaster() {
        LoopDevice x = Wire.device();
        int[] zero = Wire.longAddress(0);
        int[] one = Wire.longAddress(1);
        BENCH.due("master 1 first", Wire.ask(x, Wire.request(one, 38)), Wire.answer(one, 38, 0, 32));
        BENCH.due("master 1 again", Wire.ask(x, Wire.request(one, 38)), Wire.answer(one, 38, 0, 0));
        BENCH.due("master 0 first", Wire.ask(x, Wire.request(zero, 38)), Wire.answer(zero, 38, 0, 32));
        BENCH.due("master 0 again", Wire.ask(x, Wire.request(zero, 38)), Wire.answer(zero, 38, 0, 0));
    }

    private static void coldIsToldByEveryCode() {
        LoopDevice x = Wire.device();
        int[] own = Wire.longAddress(0);
        BENCH.due("with a code", Wire.ask(x, Wire.request(own, 99)), Wire.answer(own, 99, 64, 96));
        BENCH.due("behind a code", Wire.ask(x, Wire.request(own, 99)), Wire.answer(own, 99, 64, 64));
    }

    private static void changedPerMaster() {
        LoopDevice x = Wire.warmDevice();
        int[] zero = Wire.longAddress(0);
        int[] one = Wire.longAddress(1);
        BENCH.due("cleared for master 0", Wire.ask(x, Wire.request(zero, 38)), Wire.answer(zero, 38, 0, 0));
        BENCH.due("master 0 behind", Wire.ask(x, Wire.request(zero, 99)), Wire.answer(zero, 99, 64, 0));
        BENCH.due("master 1 has it", Wire.ask(x, Wire.request(one, 99)), Wire.answer(one, 99, 64, 64));
        BENCH.due("a wrong count", Wire.ask(x, Wire.request(one, 38, 1)), Wire.answer(one, 38, 5, 64));
        BENCH.due("cleared for master 1", Wire.ask(x, Wire.request(one, 38)), Wire.answer(one, 38, 0, 0));
        BENCH.due("set by master 1", Wire.ask(x, Wire.request(one, 108, 2)), Wire.answer(one, 108, 0, 64, 2));
        BENCH.due("master 0 has it again", Wire.ask(x, Wire.request(zero, 99)), Wire.answer(zero, 99, 64, 64));
    }

    private static void outsideTheEnds() {
        LoopDevice x = Wire.calmDevice();
        int[] own = Wire.longAddress(0);
        int[][] rows = {{-1, 8}, {0, 0}, {10000, 0}, {10001, 8}, {Integer.MIN_VALUE, 8}, {Integer.MAX_VALUE, 8}};
        for (int[] row : rows) {
            x.variable(0, row[0]);
            BENCH.due("status of " + row[0], Wire.ask(x, Wire.request(own, 38)), Wire.answer(own, 38, 0, row[1]));
        }
        x.variable(0, 5);
        x.variable(1, -1);
        BENCH.due("another variable outside", Wire.ask(x, Wire.request(own, 38)), Wire.answer(own, 38, 0, 0));
        int[] ends = Wire.join(new int[] {1}, Wire.four(4), Wire.four(-4));
        BENCH.due("new ends count at once", Wire.ask(x, Wire.request(own, 35, ends)),
                Wire.answer(own, 35, 0, 64 + 8, ends));
        x.failure(true);
        BENCH.due("all together", Wire.ask(x, Wire.request(own, 99)), Wire.answer(own, 99, 64, 128 + 64 + 8));
    }

    private static void codesComeWithoutData() {
        LoopDevice x = Wire.calmDevice();
        int[] own = Wire.shortAddress(0, 0);
        BENCH.due("code 5", Wire.ask(x, Wire.request(own, 0, 1)), Wire.answer(own, 0, 5, 0));
        BENCH.due("code 2", Wire.ask(x, Wire.request(own, 6, 16)), Wire.answer(own, 6, 2, 0));
        BENCH.due("code 64", Wire.ask(x, Wire.request(own, 7, 1, 2)), Wire.answer(own, 7, 64, 0));
    }

    private static void stateIsThatOfTheSum() {
        LoopDevice x = Wire.calmDevice();
        int[] own = Wire.shortAddress(0, 0);
        x.variable(0, 7);
        int before = Wire.feed(x, Wire.request(own, 1));
        x.variable(0, -9);
        x.failure(true);
        int after = x.tick(40);
        BENCH.due("variable and failure of the sum's tick", Wire.sentBetween(x, before, after),
                Wire.answer(own, 1, 0, 0, 0, 0, 0, 0, 7));
    }

    private static void bytesWhileItSendsAreNotLookedAt() {
        int[] own = Wire.shortAddress(0, 0);
        int[] request = Wire.request(own, 38);
        int answerLength = 12;
        for (int wait = 0; wait <= answerLength + 2; wait++) {
            LoopDevice x = Wire.device();
            Wire.feed(x, request);
            if (wait > 0) {
                x.tick(wait);
            }
            // The answer takes the 13 ticks behind the sum: the first of them without a byte.
            boolean late = wait >= answerLength + 1;
            Wire.feed(x, request);
            BENCH.due("good frames when the next begins " + wait + " ticks behind", x.has(8), late ? 2 : 1);
            BENCH.due("other frames then", x.has(9), 0);
        }
    }

    private static void framesBehindAnAnswer() {
        LoopDevice x = Wire.device();
        int[] own = Wire.shortAddress(0, 0);
        int[] request = Wire.request(own, 38);
        Wire.feed(x, request);
        Wire.feed(x, Wire.row(13, 255));
        Wire.feed(x, Wire.join(Wire.row(2, 255), new int[] {2, 128, 38, 0, 2 ^ 128 ^ 38}));
        BENCH.due("a preamble that began while it sent", x.has(8), 1);
    }

    private static void broadcastAnswer() {
        LoopDevice x = Wire.device();
        int[] tag = Wire.row(6, 32);
        int[] due = Wire.answer(Wire.longAddress(1), 11, 0, 96, 254, 5, 7, 5, 1, 2, 3);
        BENCH.due("answer to a broadcast", Wire.ask(x, Wire.request(Wire.broadcast(1), 11, tag)), due);
        int[] own = Wire.longAddress(1);
        BENCH.due("not cold behind it", Wire.ask(x, Wire.request(own, 38)), Wire.answer(own, 38, 0, 0));
    }

    private static void noAnswerToOthers() {
        LoopDevice x = Wire.device();
        BENCH.due("another address", Wire.ask(x, Wire.request(Wire.shortAddress(0, 1), 0)), new int[0]);
        int[] wrong = Wire.request(Wire.shortAddress(0, 0), 0);
        wrong[wrong.length - 1] ^= 1;
        BENCH.due("a wrong sum", Wire.ask(x, wrong), new int[0]);
        BENCH.due("answers", x.has(6), 0);
    }
}
