import java.util.Arrays;

/** COMMANDS: what each one does and answers, its count and its codes. */
public final class CommandsTest {
    private static final Bench BENCH = new Bench("CommandsTest");
    private static final int[] OWN = Wire.longAddress(0);
    private static final int[] OTHER = Wire.longAddress(1);
    private static final int[] KNOWN = {0, 1, 2, 3, 6, 11, 13, 18, 35, 38, 48, 108, 109};
    private static final int[] COUNTS = {0, 0, 0, 0, 1, 6, 0, 6, 9, 0, 0, 1, 1};
    private static final int MIN = Integer.MIN_VALUE;
    private static final int MAX = Integer.MAX_VALUE;

    public static void main(String[] args) {
        allOthers();
        othersWithAnyCount();
        anotherCount();
        anotherCountChangesNothing();
        theFirstOfSeveralCodes();
        identity();
        firstVariable();
        firstVariableWithItsSignAndUnit();
        levelBetweenTheEnds();
        levelCutTowardsZero();
        levelOfAtLeast3800();
        levelOfAtMost20500();
        levelAsLong();
        allVariables();
        shortAddressesUpToFifteen();
        shortAddressesAboveFifteen();
        newShortAddressCountsAtOnce();
        findingTheTag();
        findingAnotherTag();
        findingByBroadcast();
        theTag();
        aNewTag();
        newEnds();
        sameEnds();
        upperBelowLower();
        endsAreComparedWithTheirSign();
        refusedEndsChangeNothing();
        changedIsTaken();
        changedIsTakenOfThatMasterAlone();
        health();
        healthCountsAnswersAlone();
        healthCountsManyAnswers();
        burstCommands();
        wrongBurstCommands();
        burstOnAndOff();
        wrongBurstSwitches();
        settingChangesNothingElse();
        settingSetsChanged();
        refusedSettingLeavesChanged();
        readingLeavesChanged();
        BENCH.end();
    }

    private static void asked(String what, Device x, int[] request, int[] due) {
        BENCH.due(what, Wire.ask(x, request), due);
    }

    private static boolean isKnown(int command) {
        return Arrays.stream(KNOWN).anyMatch(known -> known == command);
    }

    private static void nothingWasSet(String what, Device x) {
        long[] first = {0, 0, 0, 10000, 0, 1};
        for (int i = 0; i < first.length; i++) {
            BENCH.due("has(" + i + ") behind " + what, x.has(i), first[i]);
        }
        for (int i = 0; i < 6; i++) {
            BENCH.due("tag(" + i + ") behind " + what, x.tag(i), 32);
        }
    }

    /** "All others: code 64." */
    private static void allOthers() {
        for (int command = 0; command < 256; command++) {
            if (!isKnown(command)) {
                asked("command " + command, Wire.calmDevice(), Wire.request(OWN, command),
                        Wire.answer(OWN, command, 64, 0));
            }
        }
    }

    /** "All others: code 64.": whatever their count */
    private static void othersWithAnyCount() {
        for (int count = 0; count <= 20; count++) {
            asked("command 4 with " + count + " bytes", Wire.calmDevice(),
                    Wire.request(OWN, 4, Wire.row(count, 1)), Wire.answer(OWN, 4, 64, 0));
        }
    }

    /** "another count than here is the code 5" */
    private static void anotherCount() {
        for (int i = 0; i < KNOWN.length; i++) {
            for (int count = 0; count <= 20; count++) {
                if (count != COUNTS[i]) {
                    asked("command " + KNOWN[i] + " with " + count + " bytes", Wire.calmDevice(),
                            Wire.request(OWN, KNOWN[i], Wire.row(count, 1)), Wire.answer(OWN, KNOWN[i], 5, 0));
                }
            }
        }
    }

    private static void anotherCountChangesNothing() {
        int[][] rows = {{6}, {6, 1, 1}, {18, 1, 2, 3, 4, 5}, {18, 1, 2, 3, 4, 5, 6, 7},
            {35, 1, 0, 0, 0, 9, 0, 0, 0}, {35, 1, 0, 0, 0, 9, 0, 0, 0, 0, 0},
            {108}, {108, 2, 2}, {109}, {109, 1, 1}};
        for (int[] row : rows) {
            Device x = Wire.calmDevice();
            Wire.ask(x, Wire.request(OWN, row[0], Arrays.copyOfRange(row, 1, row.length)));
            nothingWasSet(Arrays.toString(row), x);
        }
        Device y = Wire.warmDevice();
        asked("38 with a byte", y, Wire.request(OWN, 38, 0), Wire.answer(OWN, 38, 5, 64));
        asked("CHANGED behind it", y, Wire.request(OWN, 77), Wire.answer(OWN, 77, 64, 64));
    }

    /** "of several codes the first one here": the count's comes before all others */
    private static void theFirstOfSeveralCodes() {
        int[][] rows = {{6, 16, 16}, {6, 200, 0}, {11, 1, 2, 3, 4, 5}, {11, 1, 2, 3, 4, 5, 6, 7},
            {35, 0, 0, 0, 0, 0, 0, 0, 0}, {35, 0, 0, 0, 0, 0, 0, 0, 0, 1, 0}, {108, 4, 4}, {108, 0, 0},
            {109, 2, 2}};
        for (int[] row : rows) {
            int[] data = Arrays.copyOfRange(row, 1, row.length);
            asked(Arrays.toString(row), Wire.calmDevice(), Wire.request(OWN, row[0], data),
                    Wire.answer(OWN, row[0], 5, 0));
        }
    }

    /** "0 (0): 254, maker, kind, 5, number (3 bytes)." */
    private static void identity() {
        asked("identity", Wire.calmDevice(), Wire.request(OWN, 0),
                Wire.answer(OWN, 0, 0, 0, 254, 5, 7, 5, 1, 2, 3));
        asked("identity by the short address", Wire.calmDevice(), Wire.request(Wire.shortAddress(1, 0), 0),
                Wire.answer(Wire.shortAddress(1, 0), 0, 0, 0, 254, 5, 7, 5, 1, 2, 3));
    }

    /** "1 (0): unit, variable 0 (4 bytes, highest first)." */
    private static void firstVariable() {
        Device x = Wire.calmDevice();
        x.variable(0, 0x01020304);
        x.variable(1, 9);
        asked("variable", x, Wire.request(OWN, 1), Wire.answer(OWN, 1, 0, 8, 0, 1, 2, 3, 4));
    }

    private static void firstVariableWithItsSignAndUnit() {
        Device x = Wire.calmDevice();
        x.variable(0, -2);
        asked("below 0", x, Wire.request(OWN, 1), Wire.answer(OWN, 1, 0, 8, 0, 255, 255, 255, 254));
        Wire.ask(x, Wire.request(OWN, 35, endsOf(255, 100, -100)));
        asked("with a unit", x, Wire.request(OWN, 1), Wire.answer(OWN, 1, 0, 64, 255, 255, 255, 255, 254));
        x.variable(0, MIN);
        asked("the least", x, Wire.request(OWN, 1), Wire.answer(OWN, 1, 0, 72, 255, 128, 0, 0, 0));
        x.variable(0, MAX);
        asked("the most", x, Wire.request(OWN, 1), Wire.answer(OWN, 1, 0, 72, 255, 127, 255, 255, 255));
    }

    private static int[] endsOf(int unit, int upper, int lower) {
        return Wire.join(new int[] {unit}, Wire.four(upper), Wire.four(lower));
    }

    private static void level(int upper, int lower, int value, int due) {
        Device x = Wire.calmDevice();
        Wire.ask(x, Wire.request(OWN, 35, endsOf(0, upper, lower)));
        x.variable(0, value);
        int status = 64 + (value < lower || value > upper ? 8 : 0);
        asked("level of " + value + " in " + lower + " .. " + upper, x,
                Wire.request(OWN, 2), Wire.answer(OWN, 2, 0, status, Wire.four(due)));
        int[] all = Wire.join(Wire.four(due), Wire.four(value), Wire.row(12, 0));
        asked("the same in command 3", x, Wire.request(OWN, 3), Wire.answer(OWN, 3, 0, status, all));
    }

    /** "variable 0 less the lower end, times 16000, divided by upper less lower [..], and 4000" */
    private static void levelBetweenTheEnds() {
        level(10000, 0, 0, 4000);
        level(10000, 0, 2500, 8000);
        level(10000, 0, 10000, 20000);
        level(200, 100, 100, 4000);
        level(200, 100, 125, 8000);
        level(200, 100, 200, 20000);
        level(-10, -20, -15, 12000);
        level(1, 0, 1, 20000);
        level(1, 0, 0, 4000);
    }

    /** "(as long; cut towards 0)" */
    private static void levelCutTowardsZero() {
        level(10000, 0, 1, 4001);
        level(10000, 0, 3, 4004);
        level(10000, 0, -1, 3999);
        level(10000, 0, -3, 3996);
        level(7, 0, 1, 4000 + 16000 / 7);
        level(700000, 0, 43, 4000);
        level(700000, 0, 44, 4001);
        level(700000, 0, -43, 4000);
        level(700000, 0, -44, 3999);
    }

    /** "brought to 3800 .. 20500": the least */
    private static void levelOfAtLeast3800() {
        level(10000, 0, -124, 3802);
        level(10000, 0, -125, 3800);
        level(10000, 0, -126, 3800);
        level(16000, 0, -199, 3801);
        level(16000, 0, -200, 3800);
        level(16000, 0, -201, 3800);
        level(10000, 0, MIN, 3800);
    }

    /** "brought to 3800 .. 20500": the most */
    private static void levelOfAtMost20500() {
        level(10000, 0, 10312, 20499);
        level(10000, 0, 10313, 20500);
        level(10000, 0, 10314, 20500);
        level(16000, 0, 16499, 20499);
        level(16000, 0, 16500, 20500);
        level(16000, 0, 16501, 20500);
        level(10000, 0, MAX, 20500);
    }

    /** "(as long; cut towards 0)": nothing wraps around */
    private static void levelAsLong() {
        level(MAX, MIN, 0, 12000);
        level(MAX, MIN, -1, 11999);
        level(MAX, MIN, MAX, 20000);
        level(MAX, MIN, MIN, 4000);
        level(MAX, 0, MAX, 20000);
        level(MAX, 0, MIN, 3800);
        level(0, MIN, MAX, 20500);
        level(MIN + 1, MIN, MAX, 20500);
        level(MAX, MAX - 1, MIN, 3800);
        level(1000000, 0, 500000, 12000);
    }

    /** "3 (0): the level, then all four variables, 4 bytes each." */
    private static void allVariables() {
        Device x = Wire.calmDevice();
        int[] values = {5000, -1, MIN, 0x7A6B5C4D};
        for (int i = 0; i < 4; i++) {
            x.variable(i, values[i]);
        }
        int[] data = Wire.join(Wire.four(12000), Wire.four(values[0]), Wire.four(values[1]),
                Wire.four(values[2]), Wire.four(values[3]));
        asked("all variables", x, Wire.request(OWN, 3), Wire.answer(OWN, 3, 0, 0, data));
    }

    /** "6 (1): the short address is that byte [..]: the data are that byte." */
    private static void shortAddressesUpToFifteen() {
        for (int address = 0; address < 16; address++) {
            Device x = Wire.calmDevice();
            asked("short address " + address, x, Wire.request(OWN, 6, address),
                    Wire.answer(OWN, 6, 0, 64, address));
            BENCH.due("has(0)", x.has(0), address);
        }
    }

    /** "(code 2 if it is above 15)" */
    private static void shortAddressesAboveFifteen() {
        for (int address = 16; address < 256; address++) {
            Device x = Wire.calmDevice();
            asked("short address " + address, x, Wire.request(OWN, 6, address), Wire.answer(OWN, 6, 2, 0));
            BENCH.due("has(0) behind " + address, x.has(0), 0);
        }
    }

    /** "an answer's: in the tick of the sum, behind what the command did": so it bears the new address. */
    private static void newShortAddressCountsAtOnce() {
        Device x = Wire.calmDevice();
        asked("by its short address", x, Wire.request(Wire.shortAddress(0, 0), 6, 4),
                Wire.answer(Wire.shortAddress(0, 4), 6, 0, 64, 4));
        asked("by the one before", x, Wire.request(Wire.shortAddress(0, 0), 13), new int[0]);
        asked("by the new one", x, Wire.request(Wire.shortAddress(0, 4), 38),
                Wire.answer(Wire.shortAddress(0, 4), 38, 0, 0));
        asked("by the long one", x, Wire.request(OWN, 38), Wire.answer(OWN, 38, 0, 0));
    }

    private static Device tagged(int... tag) {
        Device x = Wire.calmDevice();
        asked("18", x, Wire.request(OWN, 18, tag), Wire.answer(OWN, 18, 0, 64, tag));
        asked("38", x, Wire.request(OWN, 38), Wire.answer(OWN, 38, 0, 0));
        asked("38 of master 1", x, Wire.request(OTHER, 38), Wire.answer(OTHER, 38, 0, 0));
        return x;
    }

    /** "11 (6): a tag: as 0 if it is the device's" */
    private static void findingTheTag() {
        int[] identity = {254, 5, 7, 5, 1, 2, 3};
        asked("the first tag", Wire.calmDevice(), Wire.request(OWN, 11, Wire.row(6, 32)),
                Wire.answer(OWN, 11, 0, 0, identity));
        Device x = tagged(1, 2, 255, 0, 128, 6);
        asked("by the long address", x, Wire.request(OWN, 11, 1, 2, 255, 0, 128, 6),
                Wire.answer(OWN, 11, 0, 0, identity));
        asked("by the short address", x, Wire.request(Wire.shortAddress(0, 0), 11, 1, 2, 255, 0, 128, 6),
                Wire.answer(Wire.shortAddress(0, 0), 11, 0, 0, identity));
    }

    /** "and the code 65 else" */
    private static void findingAnotherTag() {
        int[] tag = {1, 2, 255, 0, 128, 6};
        for (int i = 0; i < tag.length; i++) {
            int[] other = tag.clone();
            other[i] ^= 1;
            Device x = tagged(tag);
            asked("another byte " + i, x, Wire.request(OWN, 11, other), Wire.answer(OWN, 11, 65, 0));
            asked("by the short address", x, Wire.request(Wire.shortAddress(1, 0), 11, other),
                    Wire.answer(Wire.shortAddress(1, 0), 11, 65, 0));
        }
        asked("the tag before", tagged(tag), Wire.request(OWN, 11, Wire.row(6, 32)), Wire.answer(OWN, 11, 65, 0));
    }

    /** "otherwise no answer to a BROADCAST" */
    private static void findingByBroadcast() {
        int[] tag = {1, 2, 255, 0, 128, 6};
        Device x = tagged(tag);
        asked("its tag", x, Wire.request(Wire.broadcast(1), 11, tag),
                Wire.answer(OTHER, 11, 0, 0, 254, 5, 7, 5, 1, 2, 3));
        for (int i = 0; i < tag.length; i++) {
            int[] other = tag.clone();
            other[i] ^= 128;
            asked("another byte " + i, tagged(tag), Wire.request(Wire.broadcast(1), 11, other), new int[0]);
        }
    }

    /** "13 (0): the tag." */
    private static void theTag() {
        asked("the first tag", Wire.calmDevice(), Wire.request(OWN, 13),
                Wire.answer(OWN, 13, 0, 0, Wire.row(6, 32)));
        asked("a new tag", tagged(0, 255, 128, 127, 3, 2), Wire.request(OWN, 13),
                Wire.answer(OWN, 13, 0, 0, 0, 255, 128, 127, 3, 2));
    }

    /** "18 (6): the tag is these: the data are the same." */
    private static void aNewTag() {
        Device x = tagged(9, 8, 7, 6, 5, 4);
        int[] got = {x.tag(0), x.tag(1), x.tag(2), x.tag(3), x.tag(4), x.tag(5)};
        BENCH.due("its bytes", got, new int[] {9, 8, 7, 6, 5, 4});
    }

    private static void setEnds(int code, int unit, int upper, int lower) {
        Device x = Wire.calmDevice();
        x.variable(0, code == 0 ? lower : 0);
        int[] data = endsOf(unit, upper, lower);
        int[] due = code == 0 ? Wire.answer(OWN, 35, 0, 64, data) : Wire.answer(OWN, 35, code, 0);
        asked("ends " + upper + " and " + lower, x, Wire.request(OWN, 35, data), due);
        BENCH.due("unit", x.has(1), code == 0 ? unit : 0);
        BENCH.due("lower", x.has(2), code == 0 ? lower : 0);
        BENCH.due("upper", x.has(3), code == 0 ? upper : 10000);
    }

    /** "35 (9): unit, upper, lower [..]: the data are the same." */
    private static void newEnds() {
        setEnds(0, 250, 2000, 1000);
        setEnds(0, 0, 0x01020304, 0x00020304);
        setEnds(0, 255, 1, 0);
    }

    /** "code 9 if they are the same" */
    private static void sameEnds() {
        int[] ends = {0, 1, -1, 10000, MAX, MIN};
        for (int end : ends) {
            setEnds(9, 3, end, end);
        }
    }

    /** "11 if upper is below lower" */
    private static void upperBelowLower() {
        setEnds(11, 3, 5, 6);
        setEnds(0, 3, 6, 5);
        setEnds(11, 3, -1, 0);
        setEnds(0, 3, 0, -1);
        setEnds(11, 3, 0, 0x1000000);
    }

    /** "numbers of 32 bits with their sign" are what the ends are compared with */
    private static void endsAreComparedWithTheirSign() {
        setEnds(0, 3, MAX, MIN);
        setEnds(11, 3, MIN, MAX);
        setEnds(0, 3, 1, -1);
        setEnds(11, 3, -1, 1);
        setEnds(0, 3, MIN + 1, MIN);
        setEnds(11, 3, MAX - 1, MAX);
    }

    private static void refusedEndsChangeNothing() {
        Device x = Wire.calmDevice();
        Wire.ask(x, Wire.request(OWN, 35, endsOf(250, 2000, 1000)));
        Wire.ask(x, Wire.request(OWN, 35, endsOf(251, 5, 5)));
        Wire.ask(x, Wire.request(OWN, 35, endsOf(252, 5, 6)));
        BENCH.due("unit", x.has(1), 250);
        BENCH.due("lower", x.has(2), 1000);
        BENCH.due("upper", x.has(3), 2000);
    }

    /** "38 (0): CHANGED of that master is not set any more (nor in this status)." */
    private static void changedIsTaken() {
        for (int master = 0; master < 2; master++) {
            Device x = Wire.warmDevice();
            int[] own = Wire.longAddress(master);
            asked("before", x, Wire.request(own, 77), Wire.answer(own, 77, 64, 64));
            asked("nor in this status", x, Wire.request(own, 38), Wire.answer(own, 38, 0, 0));
            asked("not set any more", x, Wire.request(own, 77), Wire.answer(own, 77, 64, 0));
            asked("once more", x, Wire.request(own, 38), Wire.answer(own, 38, 0, 0));
        }
    }

    /** "CHANGED of that master" */
    private static void changedIsTakenOfThatMasterAlone() {
        Device x = Wire.warmDevice();
        Wire.ask(x, Wire.request(OWN, 38));
        asked("master 1 has it still", x, Wire.request(OTHER, 77), Wire.answer(OTHER, 77, 64, 64));
        Device y = Wire.warmDevice();
        Wire.ask(y, Wire.request(OTHER, 38));
        asked("master 0 has it still", y, Wire.request(OWN, 77), Wire.answer(OWN, 77, 64, 64));
    }

    /** "48 (0): a byte: the failure (1 or 0), and the number of answers so far, with this one" */
    private static void health() {
        Device x = Wire.device();
        asked("the first answer", x, Wire.request(OWN, 48), Wire.answer(OWN, 48, 0, 96, 0, 1));
        x.failure(true);
        asked("with a failure", x, Wire.request(OWN, 48), Wire.answer(OWN, 48, 0, 128 + 64, 1, 2));
        x.failure(false);
        asked("without", x, Wire.request(OWN, 48), Wire.answer(OWN, 48, 0, 64, 0, 3));
        asked("with a code", x, Wire.request(OWN, 48, 1), Wire.answer(OWN, 48, 5, 64));
        asked("for the other master", x, Wire.request(OTHER, 48), Wire.answer(OTHER, 48, 0, 96, 0, 5));
    }

    private static void healthCountsAnswersAlone() {
        Device x = Wire.calmDevice();
        Wire.ask(x, Wire.request(Wire.broadcast(0), 11, 1, 2, 3, 4, 5, 6));
        Wire.ask(x, Wire.request(Wire.shortAddress(0, 9), 48));
        asked("no answers", x, Wire.request(OWN, 48), Wire.answer(OWN, 48, 0, 0, 0, 3));
        Wire.ask(x, Wire.request(OWN, 77));
        asked("codes are answers too", x, Wire.request(OWN, 48), Wire.answer(OWN, 48, 0, 0, 0, 5));
        Wire.turnBurstOn(x);
        x.tick(8 + 21 + 1);
        BENCH.due("bursts", x.has(7), 1);
        BENCH.due("bursts are no answers", Wire.askBriefly(x, Wire.request(OWN, 48)),
                Wire.answer(Wire.inBurst(OWN), 48, 0, 64, 0, 7));
    }

    /** As many answers as fit into the promised calls: two for a frame, and one to let its answer go out. */
    private static void healthCountsManyAnswers() {
        Device x = Wire.device();
        int asked = 0;
        while (x.changesLeft() >= 3) {
            x.octets(0xFFFFFF02);
            x.octets(0x80300000 | 2 ^ 128 ^ 48);
            x.tick(20);
            asked++;
        }
        BENCH.due("answers", x.has(6), 170);
        BENCH.due("asked", asked, 170);
        BENCH.due("told by the last one", x.sent(14 * 170 - 2), 170);
    }

    /** "108 (1): the burst's command: code 2 unless it is 1, 2 or 3: the data are that byte." */
    private static void burstCommands() {
        for (int b = 1; b <= 3; b++) {
            Device x = Wire.calmDevice();
            asked("burst's command " + b, x, Wire.request(OWN, 108, b), Wire.answer(OWN, 108, 0, 64, b));
            BENCH.due("has(5)", x.has(5), b);
            BENCH.due("BURST is not on by that", x.has(4), 0);
        }
    }

    /** "code 2 unless it is 1, 2 or 3" */
    private static void wrongBurstCommands() {
        for (int b = 0; b < 256; b++) {
            if (b < 1 || b > 3) {
                Device x = Wire.calmDevice();
                asked("burst's command " + b, x, Wire.request(OWN, 108, b), Wire.answer(OWN, 108, 2, 0));
                BENCH.due("has(5) behind " + b, x.has(5), 1);
            }
        }
    }

    /** "109 (1): BURST is on (1), or off (0) [..]: the data are that byte." */
    private static void burstOnAndOff() {
        Device x = Wire.calmDevice();
        asked("off", x, Wire.request(OWN, 109, 0), Wire.answer(OWN, 109, 0, 64, 0));
        BENCH.due("has(4)", x.has(4), 0);
        BENCH.due("on", Wire.askBriefly(x, Wire.request(OWN, 109, 1)),
                Wire.answer(Wire.inBurst(OWN), 109, 0, 64, 1));
        BENCH.due("has(4)", x.has(4), 1);
        BENCH.due("on again", Wire.askBriefly(x, Wire.request(OWN, 109, 1)),
                Wire.answer(Wire.inBurst(OWN), 109, 0, 64, 1));
        BENCH.due("off again", Wire.askBriefly(x, Wire.request(OWN, 109, 0)), Wire.answer(OWN, 109, 0, 64, 0));
        BENCH.due("has(4)", x.has(4), 0);
    }

    /** "code 2 for others" */
    private static void wrongBurstSwitches() {
        for (int b = 2; b < 256; b++) {
            Device x = Wire.calmDevice();
            asked("109 with " + b, x, Wire.request(OWN, 109, b), Wire.answer(OWN, 109, 2, 0));
            BENCH.due("has(4) behind " + b, x.has(4), 0);
        }
        Device y = Wire.calmDevice();
        Wire.turnBurstOn(y);
        BENCH.due("while it is on", Wire.askBriefly(y, Wire.request(OWN, 109, 2)),
                Wire.answer(Wire.inBurst(OWN), 109, 2, 64));
        BENCH.due("has(4)", y.has(4), 1);
    }

    /** Short address, unit, lower and upper end, BURST and its command; then the first byte of the tag. */
    private static void settingChangesNothingElse() {
        int[] ends = endsOf(2, 77, -77);
        onlySet(Wire.request(OWN, 6, 3), 3, 0, 0, 10000, 0, 1, 32);
        onlySet(Wire.request(OWN, 18, 3, 2, 2, 2, 2, 2), 0, 0, 0, 10000, 0, 1, 3);
        onlySet(Wire.request(OWN, 35, ends), 0, 2, -77, 77, 0, 1, 32);
        onlySet(Wire.request(OWN, 108, 3), 0, 0, 0, 10000, 0, 3, 32);
        onlySet(Wire.request(OWN, 109, 1), 0, 0, 0, 10000, 1, 1, 32);
    }

    private static void onlySet(int[] request, long... due) {
        Device x = Wire.calmDevice();
        for (int i = 0; i < 4; i++) {
            x.variable(i, 40 + i);
        }
        Wire.feed(x, request);
        for (int i = 0; i < 6; i++) {
            BENCH.due("has(" + i + ") behind " + Arrays.toString(request), x.has(i), due[i]);
        }
        BENCH.due("tag(0) behind " + Arrays.toString(request), x.tag(0), due[6]);
        for (int i = 0; i < 4; i++) {
            BENCH.due("variable " + i + " behind " + Arrays.toString(request), x.variable(i, 0), 40 + i);
        }
        BENCH.due("failure behind " + Arrays.toString(request), x.failure(false), 0);
    }

    /** "6, 18, 35, 108, 109 with the code 0 set CHANGED for both masters (before their answer tells it)." */
    private static void settingSetsChanged() {
        int[][] setting = {{6, 3}, {18, 1, 2, 3, 4, 5, 6}, {35, 1, 0, 0, 0, 9, 0, 0, 0, 0}, {108, 3}, {109, 0},
            {6, 0}, {18, 32, 32, 32, 32, 32, 32}, {108, 1}};
        for (int[] row : setting) {
            int[] data = Arrays.copyOfRange(row, 1, row.length);
            for (int master = 0; master < 2; master++) {
                Device x = Wire.calmDevice();
                int[] own = Wire.longAddress(master);
                int[] other = Wire.longAddress(1 - master);
                String what = Arrays.toString(row);
                asked(what, x, Wire.request(own, row[0], data), Wire.answer(own, row[0], 0, 64, data));
                asked("the same master behind " + what, x, Wire.request(own, 77), Wire.answer(own, 77, 64, 64));
                asked("the other behind " + what, x, Wire.request(other, 77), Wire.answer(other, 77, 64, 64));
            }
        }
    }

    /** "with the code 0" */
    private static void refusedSettingLeavesChanged() {
        int[][] refused = {{6, 16}, {6}, {18, 1, 2, 3, 4, 5}, {35, 1, 0, 0, 0, 0, 0, 0, 0, 0},
            {35, 1, 0, 0, 0, 0, 0, 0, 0, 1}, {35, 1}, {108, 0}, {108, 4}, {108, 2, 2}, {109, 2}, {109, 1, 1}};
        for (int[] row : refused) {
            Device x = Wire.calmDevice();
            String what = Arrays.toString(row);
            int[] data = Arrays.copyOfRange(row, 1, row.length);
            Wire.ask(x, Wire.request(OWN, row[0], data));
            asked("CHANGED behind " + what, x, Wire.request(OWN, 77), Wire.answer(OWN, 77, 64, 0));
            asked("the other master's", x, Wire.request(OTHER, 77), Wire.answer(OTHER, 77, 64, 0));
            nothingWasSet(what, x);
        }
    }

    private static void readingLeavesChanged() {
        int[][] reading = {{0}, {1}, {2}, {3}, {13}, {38}, {48}, {77}, {11, 32, 32, 32, 32, 32, 32}};
        for (int[] row : reading) {
            Device x = Wire.calmDevice();
            String what = Arrays.toString(row);
            Wire.ask(x, Wire.request(OWN, row[0], Arrays.copyOfRange(row, 1, row.length)));
            asked("CHANGED behind " + what, x, Wire.request(OWN, 77), Wire.answer(OWN, 77, 64, 0));
            asked("the other master's", x, Wire.request(OTHER, 77), Wire.answer(OTHER, 77, 64, 0));
            nothingWasSet(what, x);
        }
    }
}
