/** The device's own burst: when it goes out, for whom, and what it tells. */
public final class BurstTest {
    private static final Bench BENCH = new Bench("BurstTest");
    private static final int[] OWN = Wire.longAddress(0);

    public static void main(String[] args) {
        offAtFirst();
        waitsForEightQuietTicks();
        anyByteBreaksTheQuiet();
        beginsBehindTheAnswer();
        mastersByTurns();
        turnsAreKeptWhileItIsOff();
        tellsItsCommand();
        statusOfItsMaster();
        stateIsThatOfTheFirstByte();
        aByteInItsFirstTickIsNotLookedAt();
        bytesWhileItSendsAreNotLookedAt();
        framesBetweenBursts();
        framesForOthersHoldItBack();
        turnedOff();
        BENCH.end();
    }

    /** A device with BURST on, in the tick behind its answer and a quiet one: seven more are due. */
    private static LoopDevice bursting(LoopDevice x) {
        Wire.askBriefly(x, Wire.request(OWN, 109, 1));
        return x;
    }

    private static int[] nextBurst(LoopDevice x) {
        int before = x.tick(1);
        for (int i = 0; i < 20 && x.tick(1) == before; i++) {
            BENCH.due("no more than eight quiet ticks", i < 8 ? 1 : 0, 1);
        }
        return Wire.sentBetween(x, before, Wire.passQuiet(x, 1));
    }

    private static void offAtFirst() {
        LoopDevice x = Wire.device();
        BENCH.due("tick(1000) on a new object", x.tick(1000), 0);
        BENCH.due("bursts", x.has(7), 0);
    }

    private static void waitsForEightQuietTicks() {
        LoopDevice x = bursting(Wire.device());
        int before = x.tick(7);
        BENCH.due("behind eight quiet ticks", x.tick(1), before + 1);
        BENCH.due("bursts", x.has(7), 1);
        BENCH.due("the rest of it", x.tick(20), before + 21);
        BENCH.due("eight quiet ticks more", x.tick(8), before + 21);
        BENCH.due("the next burst", x.tick(1), before + 22);
    }

    private static void anyByteBreaksTheQuiet() {
        int[] bytes = {0, 1, 2, 130, 254, 255};
        for (int b : bytes) {
            LoopDevice x = bursting(Wire.device());
            int before = x.tick(6);
            BENCH.due("byte " + b + " in the eighth tick", x.octet(b), before);
            BENCH.due("eight ticks behind it", x.tick(8), before);
            BENCH.due("the ninth", x.tick(1), before + 1);
        }
    }

    private static void beginsBehindTheAnswer() {
        LoopDevice x = Wire.calmDevice();
        int before = Wire.feed(x, Wire.request(OWN, 109, 1));
        int[] answer = Wire.answer(Wire.inBurst(OWN), 109, 0, 64, 1);
        int after = x.tick(1 + answer.length + 8);
        BENCH.due("the answer alone", Wire.sentBetween(x, before, after), answer);
        BENCH.due("then the burst", x.tick(1), after + 1);
    }

    private static void mastersByTurns() {
        LoopDevice x = bursting(Wire.calmDevice());
        for (int i = 0; i < 5; i++) {
            BENCH.due("burst " + i, nextBurst(x), Wire.burst(i % 2, 1, 64, 0, 0, 0, 0, 0));
        }
    }

    private static void turnsAreKeptWhileItIsOff() {
        LoopDevice x = bursting(Wire.calmDevice());
        BENCH.due("the first", nextBurst(x), Wire.burst(0, 1, 64, 0, 0, 0, 0, 0));
        Wire.askBriefly(x, Wire.request(OWN, 109, 0));
        x.tick(100);
        Wire.askBriefly(x, Wire.request(OWN, 109, 1));
        BENCH.due("the second", nextBurst(x), Wire.burst(1, 1, 64, 0, 0, 0, 0, 0));
        Wire.askBriefly(x, Wire.request(OWN, 109, 0));
        Wire.askBriefly(x, Wire.request(OWN, 109, 1));
        BENCH.due("the third", nextBurst(x), Wire.burst(0, 1, 64, 0, 0, 0, 0, 0));
    }

    private static void tellsItsCommand() {
        LoopDevice x = Wire.calmDevice();
        for (int i = 0; i < 4; i++) {
            x.variable(i, 2500 + i);
        }
        Wire.ask(x, Wire.request(OWN, 108, 2));
        bursting(x);
        BENCH.due("command 2", nextBurst(x), Wire.burst(0, 2, 64, Wire.four(8000)));
        Wire.askBriefly(x, Wire.request(OWN, 108, 3));
        int[] all = Wire.join(Wire.four(8000), Wire.four(2500), Wire.four(2501), Wire.four(2502), Wire.four(2503));
        BENCH.due("command 3", nextBurst(x), Wire.burst(1, 3, 64, all));
        int[] ends = Wire.join(new int[] {9}, Wire.four(5000), Wire.four(0));
        Wire.askBriefly(x, Wire.request(OWN, 35, ends));
        Wire.askBriefly(x, Wire.request(OWN, 108, 1));
        BENCH.due("command 1", nextBurst(x), Wire.burst(0, 1, 64, Wire.join(new int[] {9}, Wire.four(2500))));
    }

    private static void statusOfItsMaster() {
        LoopDevice x = bursting(Wire.device());
        BENCH.due("master 0 had an answer", nextBurst(x), Wire.burst(0, 1, 64, 0, 0, 0, 0, 0));
        BENCH.due("master 1 is cold", nextBurst(x), Wire.burst(1, 1, 96, 0, 0, 0, 0, 0));
        nextBurst(x);
        BENCH.due("master 1 stays cold", nextBurst(x), Wire.burst(1, 1, 96, 0, 0, 0, 0, 0));
        int[] one = Wire.longAddress(1);
        BENCH.due("its answer tells it too", Wire.askBriefly(x, Wire.request(one, 38)),
                Wire.answer(Wire.inBurst(one), 38, 0, 32));
        BENCH.due("master 0 has CHANGED", nextBurst(x), Wire.burst(0, 1, 64, 0, 0, 0, 0, 0));
        BENCH.due("master 1 has nothing", nextBurst(x), Wire.burst(1, 1, 0, 0, 0, 0, 0, 0));
    }

    private static void stateIsThatOfTheFirstByte() {
        LoopDevice x = bursting(Wire.calmDevice());
        int before = x.tick(7);
        x.variable(0, 300);
        x.failure(true);
        x.tick(1);
        x.variable(0, 400);
        x.failure(false);
        BENCH.due("as in its first tick", Wire.sentBetween(x, before, Wire.passQuiet(x, 1)),
                Wire.burst(0, 1, 128 + 64, 0, 0, 0, 1, 44));
    }

    private static void aByteInItsFirstTickIsNotLookedAt() {
        LoopDevice x = bursting(Wire.calmDevice());
        int before = x.tick(7);
        BENCH.due("a byte comes as the first goes", x.octet(255), before + 1);
        BENCH.due("it goes on", x.tick(20), before + 21);
        BENCH.due("the next one is due eight ticks behind", x.tick(9), before + 22);
    }

    private static void bytesWhileItSendsAreNotLookedAt() {
        int[] request = Wire.request(OWN, 38);
        LoopDevice x = bursting(Wire.calmDevice());
        long good = x.has(8);
        x.tick(7);
        Wire.feed(x, request);
        BENCH.due("a frame within a burst", x.has(8), good);
        LoopDevice y = bursting(Wire.calmDevice());
        y.tick(7 + 20);
        Wire.feed(y, request);
        BENCH.due("a frame that begins with its last byte", y.has(8), good);
        LoopDevice z = bursting(Wire.calmDevice());
        z.tick(7 + 21);
        Wire.feed(z, request);
        BENCH.due("a frame right behind it", z.has(8), good + 1);
    }

    private static void framesBetweenBursts() {
        LoopDevice x = bursting(Wire.calmDevice());
        nextBurst(x);
        x.tick(6);
        int before = Wire.feed(x, Wire.request(OWN, 13));
        int[] due = Wire.answer(Wire.inBurst(OWN), 13, 0, 64, Wire.row(6, 32));
        int after = x.tick(1 + due.length + 8);
        BENCH.due("answered between", Wire.sentBetween(x, before, after), due);
        BENCH.due("then a burst", x.tick(1), after + 1);
        BENCH.due("of the other master's turn", x.has(7), 2);
    }

    private static void framesForOthersHoldItBack() {
        LoopDevice x = bursting(Wire.calmDevice());
        int before = x.tick(5);
        BENCH.due("a frame for another", Wire.feed(x, Wire.request(Wire.shortAddress(1, 8), 13)), before);
        BENCH.due("eight ticks behind it", x.tick(8), before);
        BENCH.due("the ninth", x.tick(1), before + 1);
        LoopDevice y = bursting(Wire.calmDevice());
        before = y.tick(5);
        BENCH.due("a frame that does not end", Wire.feed(y, 255, 255, 255, 2, 128), before);
        BENCH.due("eight ticks behind that", y.tick(8), before);
        BENCH.due("the ninth", y.tick(1), before + 1);
    }

    private static void turnedOff() {
        LoopDevice x = bursting(Wire.calmDevice());
        nextBurst(x);
        BENCH.due("its answer", Wire.askBriefly(x, Wire.request(OWN, 109, 0)), Wire.answer(OWN, 109, 0, 64, 0));
        int before = x.tick(1);
        BENCH.due("silence", x.tick(1000), before);
        BENCH.due("bursts", x.has(7), 1);
    }
}
