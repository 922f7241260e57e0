/** ANSWERS: when an answer goes out, its form, its status, and what it stops. */
public final class AnswersTest {
    private static final Bench BENCH = new Bench("AnswersTest");
    private static final int[] OWN = Wire.longAddress(0);
    private static final int[] OTHER = Wire.longAddress(1);

    public static void main(String[] args) {
        aGoodFrameIsAnswered();
        noOtherIsAnswered();
        broadcastAnswer();
        beginsInTheSecondTick();
        bytesGoOutOneRightBehindTheOther();
        markOfTheAddress();
        masterBitAsItCame();
        bitSixAsBurstIs();
        countOfStatusAndData();
        statusOfFailure();
        statusOfChanged();
        statusOfCold();
        statusOutsideTheEnds();
        statusOfAllTogether();
        coldIsTakenBehindTheAnswer();
        coldIsTakenByAnyAnswer();
        coldIsTakenOfThatMasterAlone();
        coldStaysWithoutAnAnswer();
        dataWithCodeZeroAlone();
        stateIsThatOfTheSum();
        stateBeforeTheSumCounts();
        notLookedAtWhileItWaits();
        notLookedAtWhileItSends();
        aFrameThatBeganMeanwhile();
        lookedAtBehindTheAnswer();
        BENCH.end();
    }

    private static void asked(String what, Device x, int[] request, int[] due) {
        BENCH.due(what, Wire.ask(x, request), due);
    }

    /** "A good frame is answered" */
    private static void aGoodFrameIsAnswered() {
        asked("short", Wire.device(), Wire.request(Wire.shortAddress(0, 0), 38),
                new int[] {255, 255, 255, 255, 255, 6, 128, 38, 2, 0, 32, 6 ^ 128 ^ 38 ^ 2 ^ 32});
        asked("long", Wire.device(), Wire.request(OTHER, 38), new int[] {255, 255, 255, 255, 255, 134,
            5, 7, 1, 2, 3, 38, 2, 0, 32, 134 ^ 5 ^ 7 ^ 1 ^ 2 ^ 3 ^ 38 ^ 2 ^ 32});
    }

    private static void noOtherIsAnswered() {
        asked("another short address", Wire.device(), Wire.request(Wire.shortAddress(0, 1), 0), new int[0]);
        asked("another long address", Wire.device(), Wire.request(new int[] {133, 7, 1, 2, 4}, 0), new int[0]);
        int[] wrong = Wire.request(Wire.shortAddress(0, 0), 0);
        wrong[wrong.length - 1] ^= 1;
        asked("a wrong sum", Wire.device(), wrong, new int[0]);
    }

    /** "(one with BROADCAST only by command 11 that finds its tag)" */
    private static void broadcastAnswer() {
        int[] identity = {254, 5, 7, 5, 1, 2, 3};
        for (int master = 0; master < 2; master++) {
            Device x = Wire.device();
            int[] own = Wire.longAddress(master);
            asked("a broadcast that finds it", x, Wire.request(Wire.broadcast(master), 11, Wire.row(6, 32)),
                    Wire.answer(own, 11, 0, 96, identity));
            asked("not cold behind it", x, Wire.request(own, 38), Wire.answer(own, 38, 0, 0));
            asked("a broadcast that does not", x, Wire.request(Wire.broadcast(master), 11, Wire.row(6, 33)),
                    new int[0]);
        }
    }

    /** "the first byte goes out in the second tick behind the one of the sum" */
    private static void beginsInTheSecondTick() {
        int[][] requests = {
            Wire.request(Wire.shortAddress(0, 0), 13),
            Wire.request(OTHER, 109, 2),
            Wire.request(Wire.broadcast(0), 11, Wire.row(6, 32)),
        };
        for (int[] request : requests) {
            Device x = Wire.device();
            BENCH.due("bytes with the sum", Wire.feed(x, request), 0);
            BENCH.due("bytes in the first tick", x.tick(1), 0);
            BENCH.due("bytes in the second tick", x.tick(1), 1);
            BENCH.due("tick of the first byte", x.when(0), request.length + 1);
        }
    }

    private static void bytesGoOutOneRightBehindTheOther() {
        Device x = Wire.device();
        Wire.feed(x, Wire.request(Wire.shortAddress(0, 0), 38));
        x.tick(1);
        for (int i = 1; i <= 12; i++) {
            BENCH.due("bytes", x.tick(1), i);
        }
        BENCH.due("no more", x.tick(1), 12);
    }

    /** "the mark (6, or 134 for a long address)" */
    private static void markOfTheAddress() {
        int[][] addresses = {{0}, {128}, {64}, {5, 7, 1, 2, 3}, {133, 7, 1, 2, 3}};
        for (int[] address : addresses) {
            int[] got = Wire.ask(Wire.device(), Wire.request(address, 77));
            BENCH.due("mark for " + address.length, got[5], address.length == 1 ? 6 : 134);
        }
        int[] got = Wire.ask(Wire.device(), Wire.request(Wire.broadcast(0), 11, Wire.row(6, 32)));
        BENCH.due("mark for a broadcast", got[5], 134);
    }

    /** "(that of the device with the master's bit as it came, and bit 6 set if BURST is on)": it is off. */
    private static void masterBitAsItCame() {
        for (int bits = 0; bits < 256; bits += 64) {
            int[] narrow = {bits & 128};
            asked("short address with " + bits, Wire.device(), Wire.request(new int[] {bits}, 38),
                    Wire.answer(narrow, 38, 0, 32));
            int[] wide = {bits & 128 | 5, 7, 1, 2, 3};
            asked("long address with " + bits, Wire.device(), Wire.request(new int[] {bits | 5, 7, 1, 2, 3}, 38),
                    Wire.answer(wide, 38, 0, 32));
            int[] tag = Wire.row(6, 32);
            asked("broadcast with " + bits, Wire.device(), Wire.request(new int[] {bits, 0, 0, 0, 0}, 11, tag),
                    Wire.answer(wide, 11, 0, 96, 254, 5, 7, 5, 1, 2, 3));
        }
    }

    /** "bit 6 set if BURST is on" */
    private static void bitSixAsBurstIs() {
        for (int bits = 0; bits < 256; bits += 64) {
            Device x = Wire.calmDevice();
            Wire.turnBurstOn(x);
            BENCH.due("short address with " + bits, Wire.askBriefly(x, Wire.request(new int[] {bits}, 77)),
                    Wire.answer(new int[] {bits | 64}, 77, 64, 64));
            BENCH.due("long address with " + bits,
                    Wire.askBriefly(x, Wire.request(new int[] {bits | 5, 7, 1, 2, 3}, 77)),
                    Wire.answer(new int[] {bits | 64 | 5, 7, 1, 2, 3}, 77, 64, 64));
        }
        Device y = Wire.calmDevice();
        int[] own = Wire.shortAddress(1, 0);
        BENCH.due("the answer that turns it on", Wire.askBriefly(y, Wire.request(own, 109, 1)),
                Wire.answer(Wire.inBurst(own), 109, 0, 64, 1));
        BENCH.due("the answer that turns it off", Wire.askBriefly(y, Wire.request(own, 109, 0)),
                Wire.answer(own, 109, 0, 64, 0));
    }

    /** "the command, the count, two bytes of STATUS, the data, the sum" */
    private static void countOfStatusAndData() {
        int[][] lengths = {{0, 7}, {1, 5}, {2, 4}, {3, 20}, {13, 6}, {38, 0}, {48, 2}, {77, 0}};
        for (int[] row : lengths) {
            int[] got = Wire.ask(Wire.device(), Wire.request(Wire.shortAddress(0, 0), row[0]));
            BENCH.due("command " + row[0], got[7], row[0]);
            BENCH.due("count of " + row[0], got[8], row[1] + 2);
            BENCH.due("length of " + row[0], got.length, 9 + 2 + row[1] + 1);
        }
    }

    /** "128 for a failure" */
    private static void statusOfFailure() {
        Device x = Wire.calmDevice();
        x.failure(true);
        asked("master 0", x, Wire.request(OWN, 77), Wire.answer(OWN, 77, 64, 128));
        asked("master 1", x, Wire.request(OTHER, 77), Wire.answer(OTHER, 77, 64, 128));
    }

    /** "64 if CHANGED [..] is set for that master" */
    private static void statusOfChanged() {
        Device x = Wire.warmDevice();
        asked("master 0 at first", x, Wire.request(OWN, 77), Wire.answer(OWN, 77, 64, 64));
        asked("taken of master 0", x, Wire.request(OWN, 38), Wire.answer(OWN, 38, 0, 0));
        asked("master 1 has it", x, Wire.request(OTHER, 77), Wire.answer(OTHER, 77, 64, 64));
        asked("master 0 has not", x, Wire.request(OWN, 77), Wire.answer(OWN, 77, 64, 0));
    }

    /** "32 if COLD is set for that master" */
    private static void statusOfCold() {
        asked("master 0", Wire.device(), Wire.request(OWN, 38), Wire.answer(OWN, 38, 0, 32));
        asked("master 1", Wire.device(), Wire.request(OTHER, 38), Wire.answer(OTHER, 38, 0, 32));
    }

    /** "8 if the first variable is outside its ends" */
    private static void statusOutsideTheEnds() {
        int[][] rows = {{-1, 8}, {0, 0}, {1, 0}, {9999, 0}, {10000, 0}, {10001, 8},
            {Integer.MIN_VALUE, 8}, {Integer.MAX_VALUE, 8}};
        for (int[] row : rows) {
            Device x = Wire.calmDevice();
            x.variable(0, row[0]);
            asked("status of " + row[0], x, Wire.request(OWN, 38), Wire.answer(OWN, 38, 0, row[1]));
        }
        Device y = Wire.calmDevice();
        for (int i = 1; i < 4; i++) {
            y.variable(i, -1);
        }
        asked("other variables outside", y, Wire.request(OWN, 38), Wire.answer(OWN, 38, 0, 0));
        int[] ends = Wire.join(new int[] {1}, Wire.four(-4), Wire.four(-9));
        asked("new ends count at once", y, Wire.request(OWN, 35, ends), Wire.answer(OWN, 35, 0, 64 + 8, ends));
        y.variable(0, -4);
        asked("at the new upper end", y, Wire.request(OWN, 38), Wire.answer(OWN, 38, 0, 0));
        y.variable(0, -10);
        asked("below the new lower end", y, Wire.request(OWN, 38), Wire.answer(OWN, 38, 0, 8));
    }

    /** Two bytes of status: "the CODE; and 128 [..], 64 [..], 32 [..], 8 [..], 0" */
    private static void statusOfAllTogether() {
        Device x = Wire.device();
        x.failure(true);
        x.variable(0, -1);
        asked("all flags", x, Wire.request(OWN, 77), Wire.answer(OWN, 77, 64, 128 + 64 + 32 + 8));
        asked("all but COLD", x, Wire.request(OWN, 77), Wire.answer(OWN, 77, 64, 128 + 64 + 8));
        asked("no flags", Wire.calmDevice(), Wire.request(OWN, 77), Wire.answer(OWN, 77, 64, 0));
    }

    /** "COLD of that master is not set any more behind the answer to it (its status tells it still)" */
    private static void coldIsTakenBehindTheAnswer() {
        for (int master = 0; master < 2; master++) {
            Device x = Wire.device();
            int[] own = Wire.longAddress(master);
            asked("told still", x, Wire.request(own, 77), Wire.answer(own, 77, 64, 96));
            asked("not set any more", x, Wire.request(own, 77), Wire.answer(own, 77, 64, 64));
            asked("nor later", x, Wire.request(own, 77), Wire.answer(own, 77, 64, 64));
        }
    }

    private static void coldIsTakenByAnyAnswer() {
        int[][] requests = {
            Wire.request(OWN, 0), Wire.request(OWN, 0, 1), Wire.request(OWN, 77), Wire.request(OWN, 6, 99),
            Wire.request(OWN, 35, Wire.row(9, 0)), Wire.request(OWN, 11, Wire.row(6, 0)),
            Wire.request(Wire.shortAddress(0, 0), 48), Wire.request(Wire.broadcast(0), 11, Wire.row(6, 32)),
        };
        for (int[] request : requests) {
            Device x = Wire.device();
            Wire.ask(x, request);
            asked("behind any answer", x, Wire.request(OWN, 77), Wire.answer(OWN, 77, 64, 64));
        }
    }

    /** "COLD of that master" */
    private static void coldIsTakenOfThatMasterAlone() {
        Device x = Wire.device();
        asked("master 1 first", x, Wire.request(OTHER, 38), Wire.answer(OTHER, 38, 0, 32));
        asked("master 1 again", x, Wire.request(OTHER, 38), Wire.answer(OTHER, 38, 0, 0));
        asked("master 0 first", x, Wire.request(OWN, 38), Wire.answer(OWN, 38, 0, 32));
        asked("master 0 again", x, Wire.request(OWN, 38), Wire.answer(OWN, 38, 0, 0));
    }

    private static void coldStaysWithoutAnAnswer() {
        int[] wrong = Wire.request(OWN, 38);
        wrong[wrong.length - 1] ^= 1;
        int[][] unanswered = {wrong, Wire.request(Wire.shortAddress(0, 3), 38),
            Wire.request(Wire.broadcast(0), 11, Wire.row(6, 33)), Wire.request(Wire.broadcast(0), 11)};
        for (int[] request : unanswered) {
            Device x = Wire.device();
            Wire.ask(x, request);
            asked("cold still", x, Wire.request(OWN, 77), Wire.answer(OWN, 77, 64, 96));
        }
    }

    /** "Data are there with the code 0 alone." */
    private static void dataWithCodeZeroAlone() {
        int[] own = Wire.shortAddress(0, 0);
        asked("code 5", Wire.calmDevice(), Wire.request(own, 0, 1), Wire.answer(own, 0, 5, 0));
        asked("code 2 of 6", Wire.calmDevice(), Wire.request(own, 6, 16), Wire.answer(own, 6, 2, 0));
        asked("code 2 of 108", Wire.calmDevice(), Wire.request(own, 108, 4), Wire.answer(own, 108, 2, 0));
        asked("code 2 of 109", Wire.calmDevice(), Wire.request(own, 109, 2), Wire.answer(own, 109, 2, 0));
        asked("code 9", Wire.calmDevice(), Wire.request(own, 35, Wire.row(9, 0)), Wire.answer(own, 35, 9, 0));
        asked("code 11", Wire.calmDevice(), Wire.request(own, 35, 0, 0, 0, 0, 0, 0, 0, 0, 1),
                Wire.answer(own, 35, 11, 0));
        asked("code 64", Wire.calmDevice(), Wire.request(own, 7, 1, 2), Wire.answer(own, 7, 64, 0));
        asked("code 65", Wire.calmDevice(), Wire.request(own, 11, Wire.row(6, 1)), Wire.answer(own, 11, 65, 0));
    }

    /** "all as it is in the tick [..] (an answer's: in the tick of the sum [..])": what comes later does not count. */
    private static void stateIsThatOfTheSum() {
        for (int wait = 0; wait < 14; wait++) {
            Device x = Wire.calmDevice();
            int[] own = Wire.shortAddress(0, 0);
            x.variable(0, 7);
            int before = Wire.feed(x, Wire.request(own, 1));
            if (wait > 0) {
                x.tick(wait);
            }
            x.variable(0, -9);
            x.failure(true);
            BENCH.due("changed " + wait + " ticks behind the sum", Wire.sentBetween(x, before, x.tick(40)),
                    Wire.answer(own, 1, 0, 0, 0, 0, 0, 0, 7));
        }
    }

    private static void stateBeforeTheSumCounts() {
        Device x = Wire.calmDevice();
        int[] own = Wire.shortAddress(0, 0);
        int[] request = Wire.request(own, 1);
        int before = Wire.feed(x, java.util.Arrays.copyOf(request, request.length - 1));
        x.variable(0, -9);
        x.failure(true);
        x.octet(request[request.length - 1]);
        BENCH.due("changed right before the sum", Wire.sentBetween(x, before, x.tick(40)),
                Wire.answer(own, 1, 0, 128 + 8, 0, 255, 255, 255, 247));
    }

    /** The answer to 38 by a short address takes the 13 ticks behind the sum: the first without a byte. */
    private static void nextBegins(int wait, boolean lookedAt) {
        int[] request = Wire.request(Wire.shortAddress(0, 0), 38);
        Device x = Wire.device();
        Wire.feed(x, request);
        if (wait > 0) {
            x.tick(wait);
        }
        Wire.feed(x, request);
        BENCH.due("good frames when the next begins " + wait + " ticks behind", x.has(8), lookedAt ? 2 : 1);
        BENCH.due("other frames then", x.has(9), 0);
        BENCH.due("bytes then", x.tick(40), lookedAt ? 24 : 12);
    }

    /** "or has an answer to send": also in the tick right behind the sum */
    private static void notLookedAtWhileItWaits() {
        nextBegins(0, false);
    }

    /** "While it sends [..] bytes that come are not looked at": to its last byte */
    private static void notLookedAtWhileItSends() {
        for (int wait = 1; wait <= 12; wait++) {
            nextBegins(wait, false);
        }
    }

    private static void lookedAtBehindTheAnswer() {
        nextBegins(13, true);
        nextBegins(14, true);
    }

    /** "(a frame that had begun begins anew)": bytes 255 that came while it sent are no preamble. */
    private static void aFrameThatBeganMeanwhile() {
        int[] body = {2, 128, 38, 0};
        for (int behind = 0; behind <= 3; behind++) {
            Device x = Wire.device();
            Wire.feed(x, Wire.request(Wire.shortAddress(0, 0), 38));
            Wire.feed(x, Wire.row(13, 255));
            Wire.feed(x, Wire.summed(behind, body));
            BENCH.due("good frames with " + behind + " bytes 255 behind the answer", x.has(8), behind < 3 ? 1 : 2);
        }
    }
}
