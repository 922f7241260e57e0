/** BURST: when the device sends on its own, for which master, and what it tells. */
public final class BurstTest {
    private static final Bench BENCH = new Bench("BurstTest");
    private static final int[] OWN = Wire.longAddress(0);
    private static final int[] OTHER = Wire.longAddress(1);
    private static final int QUIET = 8;
    private static final int LENGTH = 21;

    public static void main(String[] args) {
        offAtFirst();
        offAgain();
        eightQuietTicks();
        sevenQuietTicksAreTooFew();
        anyByteBreaksTheQuiet();
        aTickThatSendsBreaksTheQuiet();
        bytesThatAreNotLookedAtBreakTheQuiet();
        noiseHoldsItBack();
        framesForOthersHoldItBack();
        aFrameThatHasBegunHoldsItBack();
        unansweredBroadcastHoldsItBack();
        anAnswerComesBetween();
        aByteInItsFirstTick();
        markAndAddress();
        commandOneAtFirst();
        burstOfEachCommand();
        masterZeroFirst();
        mastersByTurns();
        turnsOutlastOffAndOn();
        turnsOutlastOtherCommands();
        bitSixIsSet();
        statusOfItsMaster();
        coldStays();
        changedStays();
        codeZero();
        stateOfTheFirstByteCounts();
        stateBehindTheFirstByteDoesNot();
        beginsBehindTheAnswerThatTurnedItOn();
        onAgainBeginsBehindThatAnswer();
        notLookedAtWhileItSends();
        aFrameThatBeganMeanwhile();
        lookedAtBehindIt();
        turnedOffBetween();
        BENCH.end();
    }

    /** The answer goes out to its last byte, and not one tick more: how many bytes went out in all. */
    private static int answered(String what, Device x, int[] request, int[] due) {
        int before = Wire.feed(x, request);
        int after = x.tick(1 + due.length);
        BENCH.due("answer: " + what, Wire.sentBetween(x, before, after), due);
        return after;
    }

    /** Eight quiet ticks and a burst, to its last byte: how many bytes went out in all. */
    private static int burstFollows(String what, Device x, int before, int[] due) {
        BENCH.due("quiet before: " + what, x.tick(QUIET), before);
        BENCH.due("first byte: " + what, x.tick(1), before + 1);
        int after = x.tick(due.length - 1);
        BENCH.due("burst: " + what, Wire.sentBetween(x, before, after), due);
        return after;
    }

    private static int[] plainBurst(int master, int status) {
        return Wire.burst(master, 1, status, 0, 0, 0, 0, 0);
    }

    /** What the answer to a command looks like while BURST is on. */
    private static int[] answer(int[] own, int command, int code, int status, int... data) {
        return Wire.answer(Wire.inBurst(own), command, code, status, data);
    }

    /** "while it is on": it is off at first */
    private static void offAtFirst() {
        Device x = Wire.device();
        BENCH.due("tick(1000) on a new object", x.tick(1000), 0);
        BENCH.due("bursts", x.has(7), 0);
        Device y = Wire.calmDevice();
        int before = y.tick(1);
        BENCH.due("tick(1000) behind answers", y.tick(1000), before);
    }

    /** "while it is on": and off again */
    private static void offAgain() {
        Device x = Wire.calmDevice();
        int before = burstFollows("on", x, Wire.turnBurstOn(x), plainBurst(0, 64));
        before = answered("off", x, Wire.request(OWN, 109, 0), Wire.answer(OWN, 109, 0, 64, 0));
        BENCH.due("silence", x.tick(1000), before);
        BENCH.due("bursts", x.has(7), 1);
    }

    /** "when eight ticks in a row are over in which nothing came or went out, it sends, from the next tick on" */
    private static void eightQuietTicks() {
        Device x = Wire.calmDevice();
        int before = Wire.turnBurstOn(x);
        for (int i = 1; i <= QUIET; i++) {
            BENCH.due("quiet tick " + i, x.tick(1), before);
        }
        for (int i = 1; i <= LENGTH; i++) {
            BENCH.due("byte " + i, x.tick(1), before + i);
        }
        for (int i = 1; i <= QUIET; i++) {
            BENCH.due("quiet tick " + i + " of the next", x.tick(1), before + LENGTH);
        }
        BENCH.due("the next burst", x.tick(1), before + LENGTH + 1);
    }

    /** "eight ticks in a row": a byte behind seven begins the count anew */
    private static void sevenQuietTicksAreTooFew() {
        Device x = Wire.calmDevice();
        int before = Wire.turnBurstOn(x);
        for (int i = 0; i < 5; i++) {
            BENCH.due("seven quiet ticks", x.tick(7), before);
            BENCH.due("and a byte", x.octet(0), before);
        }
        burstFollows("behind the last byte", x, before, plainBurst(0, 64));
    }

    /** "in which nothing came": any byte, in any of the eight ticks */
    private static void anyByteBreaksTheQuiet() {
        int[] bytes = {0, 1, 2, 130, 254, 255};
        for (int b : bytes) {
            for (int quiet = 0; quiet < QUIET; quiet++) {
                Device x = Wire.calmDevice();
                int before = Wire.turnBurstOn(x);
                if (quiet > 0) {
                    x.tick(quiet);
                }
                BENCH.due("byte " + b + " behind " + quiet + " ticks", x.octet(b), before);
                burstFollows("behind byte " + b, x, before, plainBurst(0, 64));
            }
        }
    }

    /** "or went out": the tick that waits between a sum and its answer does not count on */
    private static void aTickThatSendsBreaksTheQuiet() {
        Device x = Wire.calmDevice();
        int before = burstFollows("the first", x, Wire.turnBurstOn(x), plainBurst(0, 64));
        before = answered("between", x, Wire.request(OWN, 77), answer(OWN, 77, 64, 64));
        burstFollows("the second", x, before, plainBurst(1, 64));
    }

    /** "in which nothing came": also bytes that come while it sends */
    private static void bytesThatAreNotLookedAtBreakTheQuiet() {
        Device x = Wire.calmDevice();
        int before = Wire.turnBurstOn(x);
        x.tick(QUIET + LENGTH - 1);
        BENCH.due("a byte with the last byte", x.octet(7), before + LENGTH);
        burstFollows("behind it", x, before + LENGTH, plainBurst(1, 64));
    }

    private static void noiseHoldsItBack() {
        Device x = Wire.calmDevice();
        int before = Wire.turnBurstOn(x);
        for (int i = 0; i < 50; i++) {
            BENCH.due("noise", x.octets(0x01FF02FF), before);
        }
        BENCH.due("bursts", x.has(7), 0);
        burstFollows("behind the noise", x, before, plainBurst(0, 64));
    }

    private static void framesForOthersHoldItBack() {
        Device x = Wire.calmDevice();
        int before = Wire.turnBurstOn(x);
        x.tick(5);
        BENCH.due("a frame for another", Wire.feed(x, Wire.request(Wire.shortAddress(1, 8), 13)), before);
        burstFollows("behind it", x, before, plainBurst(0, 64));
    }

    /** "and no frame has begun" */
    private static void aFrameThatHasBegunHoldsItBack() {
        int[] request = Wire.request(OTHER, 35, 0, 0, 0, 0, 9, 0, 0, 0, 0);
        for (int length = 1; length < request.length; length++) {
            Device x = Wire.calmDevice();
            int before = Wire.turnBurstOn(x);
            x.tick(7);
            BENCH.due("a frame that does not end", Wire.feed(x, java.util.Arrays.copyOf(request, length)), before);
            burstFollows("behind " + length + " bytes", x, before, plainBurst(0, 64));
        }
    }

    private static void unansweredBroadcastHoldsItBack() {
        Device x = Wire.calmDevice();
        int before = Wire.turnBurstOn(x);
        x.tick(7);
        BENCH.due("a broadcast", Wire.feed(x, Wire.request(Wire.broadcast(0), 11, Wire.row(6, 33))), before);
        burstFollows("behind it", x, before, plainBurst(0, 64));
    }

    /** "and nothing is to be sent or being sent" */
    private static void anAnswerComesBetween() {
        Device x = Wire.calmDevice();
        Wire.turnBurstOn(x);
        x.tick(7);
        int before = answered("behind seven ticks", x, Wire.request(OWN, 13), answer(OWN, 13, 0, 64, Wire.row(6, 32)));
        before = burstFollows("behind the answer", x, before, plainBurst(0, 64));
        before = answered("at once", x, Wire.request(OTHER, 77), answer(OTHER, 77, 64, 64));
        burstFollows("behind that", x, before, plainBurst(1, 64));
        BENCH.due("bursts", x.has(7), 2);
        BENCH.due("answers", x.has(6), 5);
    }

    /** "it sends, from the next tick on": a byte that comes in that tick comes too late, and is not looked at. */
    private static void aByteInItsFirstTick() {
        Device x = Wire.calmDevice();
        int before = Wire.turnBurstOn(x);
        x.tick(QUIET);
        BENCH.due("a byte comes as the first goes", x.octet(255), before + 1);
        BENCH.due("it goes on", x.tick(LENGTH - 1), before + LENGTH);
        burstFollows("the next one", x, before + LENGTH, plainBurst(1, 64));
    }

    /** "a frame as an answer to the burst's command [..], but with the mark 129 and the long address, bit 6 set" */
    private static void markAndAddress() {
        Device x = Wire.device();
        int before = Wire.turnBurstOn(x);
        int[] due = {255, 255, 255, 255, 255, 129, 128 + 64 + 5, 7, 1, 2, 3, 1, 7, 0, 64, 0, 0, 0, 0, 0,
            129 ^ 197 ^ 7 ^ 1 ^ 2 ^ 3 ^ 1 ^ 7 ^ 64};
        burstFollows("byte by byte", x, before, due);
        Device y = Wire.device();
        Wire.ask(y, Wire.request(Wire.shortAddress(0, 0), 6, 9));
        before = answered("by the short address", y, Wire.request(Wire.shortAddress(0, 9), 109, 1),
                answer(Wire.shortAddress(0, 9), 109, 0, 64, 1));
        burstFollows("the long address even so", y, before, plainBurst(0, 64));
        Device z = new Device(63, 255, 0xFFFFFF);
        int[] own = {191, 255, 255, 255, 255};
        before = answered("of the largest address", z, Wire.request(own, 109, 1), answer(own, 109, 0, 96, 1));
        burstFollows("of the largest address", z, before,
                Wire.sending(129, Wire.inBurst(own), 1, 0, 64, 0, 0, 0, 0, 0));
    }

    /** "the burst's command (1 at first)" */
    private static void commandOneAtFirst() {
        Device x = Wire.calmDevice();
        x.variable(0, 0x102);
        burstFollows("command 1", x, Wire.turnBurstOn(x), Wire.burst(0, 1, 64, 0, 0, 0, 1, 2));
    }

    private static void burstOfEachCommand() {
        Device x = Wire.calmDevice();
        for (int i = 0; i < 4; i++) {
            x.variable(i, 2500 + i);
        }
        Wire.ask(x, Wire.request(OWN, 108, 2));
        burstFollows("command 2", x, Wire.turnBurstOn(x), Wire.burst(0, 2, 64, Wire.four(8000)));
        int before = answered("108", x, Wire.request(OWN, 108, 3), answer(OWN, 108, 0, 64, 3));
        int[] all = Wire.join(Wire.four(8000), Wire.four(2500), Wire.four(2501), Wire.four(2502), Wire.four(2503));
        burstFollows("command 3", x, before, Wire.burst(1, 3, 64, all));
        int[] ends = Wire.join(new int[] {9}, Wire.four(5000), Wire.four(0));
        answered("35", x, Wire.request(OWN, 35, ends), answer(OWN, 35, 0, 64, ends));
        before = answered("108 again", x, Wire.request(OWN, 108, 1), answer(OWN, 108, 0, 64, 1));
        burstFollows("command 1", x, before, Wire.burst(0, 1, 64, Wire.join(new int[] {9}, Wire.four(2500))));
        before = answered("108 refused", x, Wire.request(OWN, 108, 4), answer(OWN, 108, 2, 64));
        burstFollows("command 1 still", x, before, Wire.burst(1, 1, 64, Wire.join(new int[] {9}, Wire.four(2500))));
    }

    /** "for master 0 first": whoever turned it on */
    private static void masterZeroFirst() {
        for (int master = 0; master < 2; master++) {
            Device x = Wire.calmDevice();
            int[] own = Wire.longAddress(master);
            int before = answered("by master " + master, x, Wire.request(own, 109, 1), answer(own, 109, 0, 64, 1));
            burstFollows("master 0 first", x, before, plainBurst(0, 64));
        }
    }

    /** "and then by turns" */
    private static void mastersByTurns() {
        Device x = Wire.calmDevice();
        int before = Wire.turnBurstOn(x);
        for (int i = 0; i < 7; i++) {
            before = burstFollows("burst " + i, x, before, plainBurst(i % 2, 64));
        }
        BENCH.due("bursts", x.has(7), 7);
    }

    /** "(109 off and on again changes nothing of that)" */
    private static void turnsOutlastOffAndOn() {
        Device x = Wire.calmDevice();
        burstFollows("the first", x, Wire.turnBurstOn(x), plainBurst(0, 64));
        answered("off", x, Wire.request(OWN, 109, 0), Wire.answer(OWN, 109, 0, 64, 0));
        x.tick(100);
        burstFollows("the second", x, Wire.turnBurstOn(x), plainBurst(1, 64));
        answered("off again", x, Wire.request(OTHER, 109, 0), Wire.answer(OTHER, 109, 0, 64, 0));
        burstFollows("the third", x, Wire.turnBurstOn(x), plainBurst(0, 64));
        burstFollows("the fourth, behind 109 while it is on", x, Wire.turnBurstOn(x), plainBurst(1, 64));
    }

    private static void turnsOutlastOtherCommands() {
        Device x = Wire.calmDevice();
        burstFollows("the first", x, Wire.turnBurstOn(x), plainBurst(0, 64));
        int before = answered("108", x, Wire.request(OWN, 108, 1), answer(OWN, 108, 0, 64, 1));
        burstFollows("the second", x, before, plainBurst(1, 64));
        before = answered("of master 1", x, Wire.request(OTHER, 77), answer(OTHER, 77, 64, 64));
        burstFollows("the third", x, before, plainBurst(0, 64));
        before = answered("of master 0", x, Wire.request(OWN, 77), answer(OWN, 77, 64, 64));
        burstFollows("the fourth", x, before, plainBurst(1, 64));
    }

    /** "bit 6 set": for both masters */
    private static void bitSixIsSet() {
        Device x = Wire.calmDevice();
        int before = Wire.turnBurstOn(x);
        x.tick(2 * (QUIET + LENGTH));
        BENCH.due("master 0", x.sent(before + 6), 128 + 64 + 5);
        BENCH.due("master 1", x.sent(before + LENGTH + 6), 64 + 5);
    }

    /** "and status as for that master" */
    private static void statusOfItsMaster() {
        Device x = Wire.calmDevice();
        Wire.turnBurstOn(x);
        int before = answered("38", x, Wire.request(OTHER, 38), answer(OTHER, 38, 0, 0));
        before = burstFollows("master 0 has CHANGED", x, before, plainBurst(0, 64));
        before = burstFollows("master 1 has not", x, before, plainBurst(1, 0));
        x.failure(true);
        before = burstFollows("with a failure", x, before, plainBurst(0, 128 + 64));
        x.failure(false);
        x.variable(0, -1);
        burstFollows("outside the ends", x, before, Wire.burst(1, 1, 8, 0, 255, 255, 255, 255));
    }

    /** "(COLD stays)" */
    private static void coldStays() {
        Device x = Wire.device();
        int before = Wire.turnBurstOn(x);
        before = burstFollows("master 0 had an answer", x, before, plainBurst(0, 64));
        before = burstFollows("master 1 is cold", x, before, plainBurst(1, 96));
        before = burstFollows("master 0 again", x, before, plainBurst(0, 64));
        before = burstFollows("master 1 stays cold", x, before, plainBurst(1, 96));
        before = answered("tells it too", x, Wire.request(OTHER, 77), answer(OTHER, 77, 64, 96));
        before = burstFollows("master 0 once more", x, before, plainBurst(0, 64));
        burstFollows("master 1 is not cold any more", x, before, plainBurst(1, 64));
    }

    private static void changedStays() {
        Device x = Wire.calmDevice();
        int before = burstFollows("tells CHANGED", x, Wire.turnBurstOn(x), plainBurst(0, 64));
        before = answered("it is there still", x, Wire.request(OWN, 77), answer(OWN, 77, 64, 64));
        before = answered("38", x, Wire.request(OWN, 38), answer(OWN, 38, 0, 0));
        before = burstFollows("master 1 has it", x, before, plainBurst(1, 64));
        burstFollows("master 0 has not", x, before, plainBurst(0, 0));
    }

    /** "code 0": whatever the answer before told */
    private static void codeZero() {
        Device x = Wire.calmDevice();
        Wire.turnBurstOn(x);
        int before = answered("code 64", x, Wire.request(OWN, 77), answer(OWN, 77, 64, 64));
        burstFollows("code 0", x, before, plainBurst(0, 64));
    }

    /** "all as it is in the tick in which its first byte goes out" */
    private static void stateOfTheFirstByteCounts() {
        Device x = Wire.calmDevice();
        int before = Wire.turnBurstOn(x);
        x.tick(QUIET);
        x.variable(0, 300);
        x.failure(true);
        x.tick(LENGTH);
        BENCH.due("set right before its first byte", Wire.sentBetween(x, before, before + LENGTH),
                Wire.burst(0, 1, 128 + 64, 0, 0, 0, 1, 44));
    }

    private static void stateBehindTheFirstByteDoesNot() {
        for (int gone = 1; gone < LENGTH; gone++) {
            Device x = Wire.calmDevice();
            int before = Wire.turnBurstOn(x);
            x.tick(QUIET + gone);
            x.variable(0, 400);
            x.failure(true);
            x.tick(LENGTH - gone);
            BENCH.due("set behind byte " + gone, Wire.sentBetween(x, before, before + LENGTH), plainBurst(0, 64));
        }
    }

    /** "What it turned on in an answer begins behind that." */
    private static void beginsBehindTheAnswerThatTurnedItOn() {
        Device x = Wire.device();
        x.tick(100);
        int[] request = Wire.request(Wire.shortAddress(1, 0), 109, 1);
        int[] due = answer(Wire.shortAddress(1, 0), 109, 0, 96, 1);
        int before = answered("109", x, request, due);
        BENCH.due("bursts with the answer", x.has(7), 0);
        burstFollows("behind the answer", x, before, plainBurst(0, 96));
        BENCH.due("its first tick", x.when(due.length), 100 + request.length + 1 + due.length + QUIET);
    }

    private static void onAgainBeginsBehindThatAnswer() {
        Device x = Wire.calmDevice();
        int before = Wire.turnBurstOn(x);
        x.tick(6);
        before = Wire.turnBurstOn(x);
        burstFollows("behind the second answer", x, before, plainBurst(0, 64));
    }

    /** A frame begins so many ticks behind the last byte of the answer: how many good ones came in all. */
    private static void frameBegins(int ticks, boolean lookedAt) {
        Device x = Wire.calmDevice();
        Wire.turnBurstOn(x);
        long good = x.has(8);
        x.tick(ticks);
        Wire.feed(x, Wire.request(OWN, 38));
        BENCH.due("good frames, begun behind " + ticks, x.has(8), lookedAt ? good + 1 : good);
        BENCH.due("other frames, begun behind " + ticks, x.has(9), 0);
    }

    /** "While it sends [..] bytes that come are not looked at" */
    private static void notLookedAtWhileItSends() {
        for (int ticks = QUIET; ticks < QUIET + LENGTH; ticks++) {
            frameBegins(ticks, false);
        }
    }

    private static void lookedAtBehindIt() {
        frameBegins(QUIET - 1, true);
        frameBegins(QUIET + LENGTH, true);
        frameBegins(QUIET + LENGTH + 1, true);
    }

    /** "(a frame that had begun begins anew)": bytes 255 that came while it sent are no preamble. */
    private static void aFrameThatBeganMeanwhile() {
        int[] body = {2, 128, 38, 0};
        for (int behind = 0; behind <= 3; behind++) {
            Device x = Wire.calmDevice();
            Wire.turnBurstOn(x);
            long good = x.has(8);
            x.tick(QUIET);
            Wire.feed(x, Wire.row(LENGTH, 255));
            Wire.feed(x, Wire.summed(behind, body));
            BENCH.due("good frames with " + behind + " bytes 255 behind it", x.has(8), behind < 3 ? good : good + 1);
        }
    }

    /** 109 in the quiet before a burst: the burst that was to come does not. */
    private static void turnedOffBetween() {
        Device x = Wire.calmDevice();
        Wire.turnBurstOn(x);
        x.tick(7);
        int before = answered("off", x, Wire.request(OWN, 109, 0), Wire.answer(OWN, 109, 0, 64, 0));
        BENCH.due("silence", x.tick(1000), before);
        BENCH.due("bursts", x.has(7), 0);
    }
}
