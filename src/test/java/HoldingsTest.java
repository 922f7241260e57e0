/** Promises 7, 8, 9 and 10: variable, failure, has and tag. */
public final class HoldingsTest {
    private static final Bench BENCH = new Bench("HoldingsTest");
    private static final int[] OWN = Wire.longAddress(0);
    private static final int[] FAR = {100, -100, Integer.MAX_VALUE, Integer.MIN_VALUE, 256, 65536};

    public static void main(String[] args) {
        variableTellsWhatWasBefore();
        variablesOfAllSizes();
        variablesAreApart();
        noVariableBelow();
        noVariableAbove();
        wrongVariablesChangeNothing();
        variableTakesNoTime();
        failureTellsWhetherItChanged();
        failureCountsFromNowOn();
        failureTakesNoTime();
        hasSettings();
        hasEndsWithTheirSign();
        hasBurst();
        hasAnswersInTheTickOfTheSum();
        hasAnswersWithoutBursts();
        hasAnswersWithoutUnansweredFrames();
        hasBursts();
        hasGoodFrames();
        hasEndedFramesThatWereNotGood();
        hasNoFramesThatDidNotEnd();
        hasNoneBelow();
        hasNoneAbove();
        tagBytes();
        tagNoneBelow();
        tagNoneAbove();
        BENCH.end();
    }

    /** "A variable is v now: that before" */
    private static void variableTellsWhatWasBefore() {
        Device x = Wire.device();
        BENCH.due("variable(0, 5)", x.variable(0, 5), 0);
        BENCH.due("variable(0, 6)", x.variable(0, 6), 5);
        BENCH.due("variable(0, 6) again", x.variable(0, 6), 6);
        BENCH.due("variable(0, 0)", x.variable(0, 0), 6);
    }

    /** "numbers of 32 bits with their sign" */
    private static void variablesOfAllSizes() {
        int[] values = {-1, Integer.MIN_VALUE, Integer.MAX_VALUE, 0x80000001, -2, 65536};
        for (int i = 0; i < 4; i++) {
            Device x = Wire.device();
            for (int v : values) {
                x.variable(i, v);
                BENCH.due("variable " + i + " behind " + v, x.variable(i, 0), v);
            }
        }
    }

    private static void variablesAreApart() {
        Device x = Wire.device();
        for (int i = 0; i < 4; i++) {
            BENCH.due("variable " + i + " at first", x.variable(i, 10 + i), 0);
        }
        for (int i = 3; i >= 0; i--) {
            BENCH.due("variable " + i, x.variable(i, 0), 10 + i);
        }
    }

    /** "NONE for others than 0 .. 3": below */
    private static void noVariableBelow() {
        BENCH.due("variable(-1, 7)", Wire.device().variable(-1, 7), LoopDevice.NONE);
        BENCH.due("variable(MIN, 7)", Wire.device().variable(Integer.MIN_VALUE, 7), LoopDevice.NONE);
    }

    /** "NONE for others than 0 .. 3": above */
    private static void noVariableAbove() {
        BENCH.due("variable(4, 7)", Wire.device().variable(4, 7), LoopDevice.NONE);
        for (int i : FAR) {
            BENCH.due("variable(" + i + ", 7)", Wire.device().variable(i, 7), LoopDevice.NONE);
        }
    }

    private static void wrongVariablesChangeNothing() {
        int[] others = {-1, 4, -4, 7, 8, 256, Integer.MIN_VALUE, Integer.MAX_VALUE};
        Device x = Wire.device();
        for (int i : others) {
            x.variable(i, 7);
            BENCH.due("variable(" + i + ", 7) again", x.variable(i, 7), LoopDevice.NONE);
        }
        for (int i = 0; i < 4; i++) {
            BENCH.due("variable " + i + " behind wrong ones", x.variable(i, 0), 0);
        }
    }

    private static void variableTakesNoTime() {
        Device x = Wire.device();
        for (int b : Wire.request(OWN, 38)) {
            x.octet(b);
            x.variable(0, b);
            x.variable(4, b);
        }
        BENCH.due("good frames with calls between", x.has(8), 1);
        BENCH.due("now()", x.now(), 12);
    }

    /** "There is a FAILURE from now on, or not: 1; 0 if it was so." */
    private static void failureTellsWhetherItChanged() {
        Device x = Wire.device();
        BENCH.due("failure(false) at first", x.failure(false), 0);
        BENCH.due("failure(true)", x.failure(true), 1);
        BENCH.due("failure(true) again", x.failure(true), 0);
        BENCH.due("failure(false)", x.failure(false), 1);
        BENCH.due("failure(false) again", x.failure(false), 0);
        BENCH.due("failure(true) once more", x.failure(true), 1);
    }

    /** "from now on, or not" */
    private static void failureCountsFromNowOn() {
        Device x = Wire.calmDevice();
        x.failure(true);
        BENCH.due("status with a failure", Wire.ask(x, Wire.request(OWN, 38)), Wire.answer(OWN, 38, 0, 128));
        x.failure(true);
        BENCH.due("status with it still", Wire.ask(x, Wire.request(OWN, 38)), Wire.answer(OWN, 38, 0, 128));
        x.failure(false);
        BENCH.due("status without", Wire.ask(x, Wire.request(OWN, 38)), Wire.answer(OWN, 38, 0, 0));
    }

    private static void failureTakesNoTime() {
        Device x = Wire.device();
        for (int b : Wire.request(OWN, 38)) {
            x.octet(b);
            x.failure(b > 3);
        }
        BENCH.due("good frames with calls between", x.has(8), 1);
        BENCH.due("now()", x.now(), 12);
    }

    private static int[] ends(int unit, int upper, int lower) {
        return Wire.join(new int[] {unit}, Wire.four(upper), Wire.four(lower));
    }

    /** "what = 0 the short address, 1 the unit, 2 the lower end, 3 the upper one" */
    private static void hasSettings() {
        Device x = Wire.device();
        Wire.ask(x, Wire.request(OWN, 6, 15));
        BENCH.due("short address", x.has(0), 15);
        Wire.ask(x, Wire.request(OWN, 35, ends(255, 70000, 300)));
        BENCH.due("unit", x.has(1), 255);
        BENCH.due("lower end", x.has(2), 300);
        BENCH.due("upper end", x.has(3), 70000);
    }

    private static void hasEndsWithTheirSign() {
        Device x = Wire.device();
        Wire.ask(x, Wire.request(OWN, 35, ends(200, Integer.MAX_VALUE, Integer.MIN_VALUE)));
        BENCH.due("unit", x.has(1), 200);
        BENCH.due("lower end", x.has(2), Integer.MIN_VALUE);
        BENCH.due("upper end", x.has(3), Integer.MAX_VALUE);
        Wire.ask(x, Wire.request(OWN, 35, ends(0, -1, -2)));
        BENCH.due("lower end below 0", x.has(2), -2);
        BENCH.due("upper end below 0", x.has(3), -1);
    }

    /** "4 whether BURST is on, 5 the burst's command" */
    private static void hasBurst() {
        Device x = Wire.device();
        Wire.ask(x, Wire.request(OWN, 108, 3));
        BENCH.due("burst's command", x.has(5), 3);
        BENCH.due("not on yet", x.has(4), 0);
        Wire.turnBurstOn(x);
        BENCH.due("burst on", x.has(4), 1);
        Wire.askBriefly(x, Wire.request(OWN, 109, 0));
        BENCH.due("burst off", x.has(4), 0);
        BENCH.due("its command stays", x.has(5), 3);
    }

    /** "how many answers (not bursts) it began (each counts in the tick of the sum already)" */
    private static void hasAnswersInTheTickOfTheSum() {
        Device x = Wire.device();
        int[] request = Wire.request(Wire.shortAddress(0, 0), 13);
        for (int i = 0; i < request.length; i++) {
            BENCH.due("answers before byte " + i, x.has(6), 0);
            x.octet(request[i]);
        }
        BENCH.due("answers behind the sum", x.has(6), 1);
        BENCH.due("no byte went out yet", x.sent(0), LoopDevice.NONE);
        x.tick(30);
        BENCH.due("answers behind the answer", x.has(6), 1);
        Wire.feed(x, Wire.request(OWN, 77));
        BENCH.due("answers with a code count", x.has(6), 2);
    }

    /** "(not bursts)" */
    private static void hasAnswersWithoutBursts() {
        Device x = Wire.device();
        Wire.turnBurstOn(x);
        x.tick(1000);
        BENCH.due("answers", x.has(6), 1);
    }

    private static void hasAnswersWithoutUnansweredFrames() {
        Device x = Wire.device();
        Wire.feed(x, Wire.request(Wire.broadcast(0), 11, 1, 2, 3, 4, 5, 6));
        Wire.feed(x, Wire.request(Wire.shortAddress(0, 1), 13));
        BENCH.due("answers", x.has(6), 0);
    }

    /** "7 how many bursts" */
    private static void hasBursts() {
        Device x = Wire.device();
        Wire.turnBurstOn(x);
        x.tick(8);
        BENCH.due("bursts behind eight quiet ticks", x.has(7), 0);
        x.tick(1);
        BENCH.due("bursts with the first byte", x.has(7), 1);
        x.tick(28);
        BENCH.due("bursts before the next", x.has(7), 1);
        x.tick(1);
        BENCH.due("bursts with the next", x.has(7), 2);
    }

    /** "8 how many good frames came" */
    private static void hasGoodFrames() {
        Device x = Wire.device();
        int[] request = Wire.request(Wire.shortAddress(0, 0), 13);
        for (int b : request) {
            BENCH.due("good frames before the sum", x.has(8), 0);
            x.octet(b);
        }
        BENCH.due("good frames behind the sum", x.has(8), 1);
        x.tick(40);
        Wire.feed(x, Wire.request(Wire.broadcast(0), 11, 1, 2, 3, 4, 5, 6));
        BENCH.due("a good one without an answer", x.has(8), 2);
        Wire.feed(x, Wire.request(Wire.shortAddress(0, 1), 13));
        BENCH.due("one for another device", x.has(8), 2);
        Wire.ask(x, Wire.request(OWN, 77));
        BENCH.due("an unknown command", x.has(8), 3);
        BENCH.due("frames that were not good", x.has(9), 1);
    }

    /** "9 how many ended that were not good" */
    private static void hasEndedFramesThatWereNotGood() {
        Device x = Wire.device();
        int[] other = Wire.request(Wire.shortAddress(0, 1), 13);
        for (int b : other) {
            BENCH.due("other frames before the sum", x.has(9), 0);
            x.octet(b);
        }
        BENCH.due("one for another device", x.has(9), 1);
        int[] wrong = Wire.request(Wire.shortAddress(0, 0), 13);
        wrong[wrong.length - 1] ^= 1;
        Wire.feed(x, wrong);
        BENCH.due("one with a wrong sum", x.has(9), 2);
        Wire.feed(x, Wire.request(Wire.broadcast(0), 13));
        BENCH.due("one to zeros without command 11", x.has(9), 3);
        BENCH.due("good frames", x.has(8), 0);
    }

    /** "9 how many ended": one that is broken off did not end. */
    private static void hasNoFramesThatDidNotEnd() {
        Device x = Wire.device();
        Wire.feed(x, 255, 255, 255, 2, 128, 13);
        x.tick(1);
        Wire.feed(x, 255, 255, 255, 2, 128, 13, 21);
        Wire.feed(x, 255, 255, 255, 3, 128, 13, 0, 3 ^ 128 ^ 13);
        BENCH.due("good frames", x.has(8), 0);
        BENCH.due("other frames", x.has(9), 0);
    }

    /** "NONE for others": below 0 */
    private static void hasNoneBelow() {
        BENCH.due("has(-1)", Wire.device().has(-1), LoopDevice.NONE);
        BENCH.due("has(-10)", Wire.device().has(-10), LoopDevice.NONE);
    }

    /** "NONE for others": above 9 */
    private static void hasNoneAbove() {
        BENCH.due("has(10)", Wire.device().has(10), LoopDevice.NONE);
        BENCH.due("has(11)", Wire.device().has(11), LoopDevice.NONE);
        for (int what : FAR) {
            BENCH.due("has(" + what + ")", Wire.device().has(what), LoopDevice.NONE);
        }
    }

    /** "Byte i (0 .. 5) of the tag" */
    private static void tagBytes() {
        Device x = Wire.device();
        int[] tag = {0, 255, 1, 128, 127, 65};
        Wire.ask(x, Wire.request(Wire.shortAddress(1, 0), 18, tag));
        for (int i = 0; i < tag.length; i++) {
            BENCH.due("tag(" + i + ")", x.tag(i), tag[i]);
        }
    }

    /** "NONE for others": below 0 */
    private static void tagNoneBelow() {
        BENCH.due("tag(-1)", Wire.device().tag(-1), LoopDevice.NONE);
        BENCH.due("tag(-6)", Wire.device().tag(-6), LoopDevice.NONE);
    }

    /** "NONE for others": above 5 */
    private static void tagNoneAbove() {
        Device x = Wire.device();
        BENCH.due("tag(6)", x.tag(6), LoopDevice.NONE);
        for (int i : FAR) {
            BENCH.due("tag(" + i + ")", x.tag(i), LoopDevice.NONE);
        }
        Wire.ask(x, Wire.request(OWN, 18, 1, 2, 3, 4, 5, 6));
        BENCH.due("tag(6) behind a new tag", x.tag(6), LoopDevice.NONE);
    }
}
