/** What each command does and answers. */
public final class CommandsTest {
    private static final Bench BENCH = new Bench("CommandsTest");
    private static final int[] OWN = Wire.longAddress(0);
    private static final int[] KNOWN = {0, 1, 2, 3, 6, 11, 13, 18, 35, 38, 48, 108, 109};
    private static final int[] COUNTS = {0, 0, 0, 0, 1, 6, 0, 6, 9, 0, 0, 1, 1};

    public static void main(String[] args) {
        unknownCommands();
        wrongCounts();
        identity();
        firstVariable();
        levels();
        allVariables();
        newShortAddress();
        tags();
        newEnds();
        changed();
        health();
        healthCountsModulo();
        burstCommand();
        burstSwitch();
        refusedCommandsChangeNothing();
        BENCH.end();
    }

    private static void asked(String what, LoopDevice x, int[] request, int[] due) {
        BENCH.due(what, Wire.ask(x, request), due);
    }

    private static int indexOf(int command) {
        for (int i = 0; i < KNOWN.length; i++) {
            if (KNOWN[i] == command) {
                return i;
            }
        }
        return -1;
    }

    private static void unknownCommands() {
        LoopDevice x = Wire.calmDevice();
        for (int command = 0; command < 256; command++) {
            if (indexOf(command) < 0) {
                asked("command " + command, x, Wire.request(OWN, command), Wire.answer(OWN, command, 64, 0));
            }
        }
        asked("an unknown command with data", x, Wire.request(OWN, 4, 1, 2, 3), Wire.answer(OWN, 4, 64, 0));
    }

    private static void wrongCounts() {
        for (int i = 0; i < KNOWN.length; i++) {
            LoopDevice x = Wire.calmDevice();
            for (int count = 0; count <= 20; count++) {
                if (count != COUNTS[i]) {
                    int[] data = Wire.row(count, 200);
                    asked("command " + KNOWN[i] + " with " + count + " bytes", x,
                            Wire.request(OWN, KNOWN[i], data), Wire.answer(OWN, KNOWN[i], 5, 0));
                }
            }
        }
    }

    private static void identity() {
        asked("identity", Wire.calmDevice(), Wire.request(OWN, 0),
                Wire.answer(OWN, 0, 0, 0, 254, 5, 7, 5, 1, 2, 3));
    }

    private static void firstVariable() {
        LoopDevice x = Wire.calmDevice();
        x.variable(0, 0x01020304);
        asked("variable", x, Wire.request(OWN, 1), Wire.answer(OWN, 1, 0, 8, 0, 1, 2, 3, 4));
        x.variable(0, -2);
        asked("below 0", x, Wire.request(OWN, 1), Wire.answer(OWN, 1, 0, 8, 0, 255, 255, 255, 254));
        int[] ends = Wire.join(new int[] {77}, Wire.four(100), Wire.four(-100));
        Wire.ask(x, Wire.request(OWN, 35, ends));
        asked("with a unit", x, Wire.request(OWN, 1), Wire.answer(OWN, 1, 0, 64, 77, 255, 255, 255, 254));
    }

    private static void levels() {
        int[][] plain = {
            {0, 4000}, {2500, 8000}, {10000, 20000}, {1, 4001}, {3, 4004}, {-1, 3999}, {-3, 3996},
            {-124, 3802}, {-125, 3800}, {-126, 3800}, {10312, 20499}, {10313, 20500}, {10314, 20500},
            {Integer.MAX_VALUE, 20500}, {Integer.MIN_VALUE, 3800},
        };
        for (int[] row : plain) {
            level(10000, 0, row[0], row[1]);
        }
        level(7, 0, 1, 4000 + 16000 / 7);
        level(700000, 0, -44, 4000 - 1);
        level(700000, 0, -43, 4000);
        level(-10, -20, -15, 12000);
        int max = Integer.MAX_VALUE;
        int min = Integer.MIN_VALUE;
        level(max, min, 0, 12000);
        level(max, min, max, 20000);
        level(max, min, min, 4000);
        level(min + 1, min, max, 20500);
        level(max, max - 1, min, 3800);
    }

    private static void level(int upper, int lower, int value, int due) {
        LoopDevice x = Wire.calmDevice();
        Wire.ask(x, Wire.request(OWN, 35, Wire.join(new int[] {0}, Wire.four(upper), Wire.four(lower))));
        x.variable(0, value);
        int status = 64 + (value < lower || value > upper ? 8 : 0);
        asked("level of " + value + " in " + lower + " .. " + upper, x,
                Wire.request(OWN, 2), Wire.answer(OWN, 2, 0, status, Wire.four(due)));
    }

    private static void allVariables() {
        LoopDevice x = Wire.calmDevice();
        int[] values = {5000, -1, Integer.MIN_VALUE, 0x7A6B5C4D};
        for (int i = 0; i < 4; i++) {
            x.variable(i, values[i]);
        }
        int[] data = Wire.join(Wire.four(12000), Wire.four(values[0]), Wire.four(values[1]),
                Wire.four(values[2]), Wire.four(values[3]));
        asked("all variables", x, Wire.request(OWN, 3), Wire.answer(OWN, 3, 0, 0, data));
    }

    private static void newShortAddress() {
        LoopDevice x = Wire.calmDevice();
        for (int address = 0; address < 16; address++) {
            asked("short address " + address, x, Wire.request(OWN, 6, address),
                    Wire.answer(OWN, 6, 0, 64, address));
            BENCH.due("has(0)", x.has(0), address);
        }
        int[] wrong = {16, 17, 64, 128, 255};
        for (int address : wrong) {
            asked("short address " + address, x, Wire.request(OWN, 6, address), Wire.answer(OWN, 6, 2, 64));
            BENCH.due("has(0)", x.has(0), 15);
        }
        asked("by its short address", x, Wire.request(Wire.shortAddress(0, 15), 6, 4),
                Wire.answer(Wire.shortAddress(0, 4), 6, 0, 64, 4));
        asked("by the one before", x, Wire.request(Wire.shortAddress(0, 15), 13), new int[0]);
    }

    private static void tags() {
        LoopDevice x = Wire.calmDevice();
        asked("the first tag", x, Wire.request(OWN, 13), Wire.answer(OWN, 13, 0, 0, Wire.row(6, 32)));
        int[] tag = {1, 2, 255, 0, 128, 6};
        asked("a new tag", x, Wire.request(OWN, 18, tag), Wire.answer(OWN, 18, 0, 64, tag));
        asked("reading it", x, Wire.request(OWN, 13), Wire.answer(OWN, 13, 0, 64, tag));
        int[] identity = {254, 5, 7, 5, 1, 2, 3};
        asked("finding it", x, Wire.request(OWN, 11, tag), Wire.answer(OWN, 11, 0, 64, identity));
        asked("finding it by the short address", x, Wire.request(Wire.shortAddress(0, 0), 11, tag),
                Wire.answer(Wire.shortAddress(0, 0), 11, 0, 64, identity));
        asked("finding it by broadcast", x, Wire.request(Wire.broadcast(0), 11, tag),
                Wire.answer(OWN, 11, 0, 64, identity));
        for (int i = 0; i < tag.length; i++) {
            int[] other = tag.clone();
            other[i] ^= 1;
            asked("another tag at " + i, x, Wire.request(OWN, 11, other), Wire.answer(OWN, 11, 65, 64));
            asked("another tag by broadcast", x, Wire.request(Wire.broadcast(0), 11, other), new int[0]);
        }
    }

    private static void newEnds() {
        LoopDevice x = Wire.calmDevice();
        ends(x, 0, 64, 250, 2000, 1000);
        ends(x, 9, 64, 251, 5, 5);
        ends(x, 11, 64, 252, 5, 6);
        ends(x, 11, 64, 252, Integer.MIN_VALUE, Integer.MAX_VALUE);
        BENCH.due("unit behind refused ends", x.has(1), 250);
        BENCH.due("lower behind refused ends", x.has(2), 1000);
        BENCH.due("upper behind refused ends", x.has(3), 2000);
        ends(x, 0, 64, 0, -5, -6);
        BENCH.due("lower", x.has(2), -6);
        BENCH.due("upper", x.has(3), -5);
        ends(x, 0, 64, 255, Integer.MAX_VALUE, Integer.MIN_VALUE);
    }

    private static void ends(LoopDevice x, int code, int status, int unit, int upper, int lower) {
        x.variable(0, code == 0 ? lower : (int) x.has(2));
        int[] data = Wire.join(new int[] {unit}, Wire.four(upper), Wire.four(lower));
        int[] told = code == 0 ? data : new int[0];
        asked("ends " + upper + " and " + lower, x, Wire.request(OWN, 35, data),
                Wire.answer(OWN, 35, code, status, told));
    }

    private static void changed() {
        int[][] setting = {{6, 3}, {18, 1, 2, 3, 4, 5, 6}, {35, 1, 0, 0, 0, 9, 0, 0, 0, 0}, {108, 3}, {109, 0}};
        int[] other = Wire.longAddress(1);
        for (int[] row : setting) {
            LoopDevice x = Wire.calmDevice();
            int[] data = java.util.Arrays.copyOfRange(row, 1, row.length);
            asked("command " + row[0], x, Wire.request(OWN, row[0], data), Wire.answer(OWN, row[0], 0, 64, data));
            asked("the other master behind " + row[0], x, Wire.request(other, 99), Wire.answer(other, 99, 64, 64));
            asked("no longer", x, Wire.request(OWN, 38), Wire.answer(OWN, 38, 0, 0));
            asked("the other master still", x, Wire.request(other, 99), Wire.answer(other, 99, 64, 64));
        }
        int[] reading = {0, 1, 2, 3, 13, 38, 48};
        for (int command : reading) {
            LoopDevice x = Wire.calmDevice();
            Wire.ask(x, Wire.request(OWN, command));
            asked("nothing changed by " + command, x, Wire.request(OWN, 99), Wire.answer(OWN, 99, 64, 0));
        }
    }

    private static void health() {
        LoopDevice x = Wire.calmDevice();
        asked("health", x, Wire.request(OWN, 48), Wire.answer(OWN, 48, 0, 0, 0, 3));
        x.failure(true);
        asked("health with a failure", x, Wire.request(OWN, 48), Wire.answer(OWN, 48, 0, 128, 1, 4));
        Wire.ask(x, Wire.request(Wire.broadcast(0), 11, 1, 2, 3, 4, 5, 6));
        Wire.ask(x, Wire.request(Wire.shortAddress(0, 9), 48));
        Wire.ask(x, Wire.request(OWN, 99));
        asked("codes are answers too", x, Wire.request(OWN, 48), Wire.answer(OWN, 48, 0, 128, 1, 6));
        Wire.feed(x, Wire.request(OWN, 109, 1));
        x.tick(2 + 17 + 8 + 21 + 1);
        BENCH.due("bursts", x.has(7), 1);
        BENCH.due("bursts are no answers", Wire.askBriefly(x, Wire.request(OWN, 48)),
                Wire.answer(Wire.inBurst(OWN), 48, 0, 128 + 64, 1, 8));
    }

    private static void healthCountsModulo() {
        LoopDevice x = Wire.calmDevice();
        for (int i = 2; i < 254; i++) {
            Wire.ask(x, Wire.request(OWN, 99));
        }
        asked("answer 255", x, Wire.request(OWN, 48), Wire.answer(OWN, 48, 0, 0, 0, 255));
        asked("answer 256", x, Wire.request(OWN, 48), Wire.answer(OWN, 48, 0, 0, 0, 0));
        asked("answer 257", x, Wire.request(OWN, 48), Wire.answer(OWN, 48, 0, 0, 0, 1));
        BENCH.due("has(6) is not cut", x.has(6), 257);
    }

    private static void burstCommand() {
        LoopDevice x = Wire.calmDevice();
        for (int b = 0; b < 256; b++) {
            boolean right = b >= 1 && b <= 3;
            int status = b == 0 ? 0 : 64;
            int[] due = right ? Wire.answer(OWN, 108, 0, 64, b) : Wire.answer(OWN, 108, 2, status);
            asked("burst's command " + b, x, Wire.request(OWN, 108, b), due);
            BENCH.due("has(5) behind " + b, x.has(5), b == 0 ? 1 : Math.min(b, 3));
        }
    }

    private static void burstSwitch() {
        LoopDevice x = Wire.calmDevice();
        asked("off", x, Wire.request(OWN, 109, 0), Wire.answer(OWN, 109, 0, 64, 0));
        int[] wrong = {2, 3, 128, 255};
        for (int b : wrong) {
            asked("burst " + b, x, Wire.request(OWN, 109, b), Wire.answer(OWN, 109, 2, 64));
            BENCH.due("has(4) behind " + b, x.has(4), 0);
        }
        BENCH.due("on", Wire.askBriefly(x, Wire.request(OWN, 109, 1)),
                Wire.answer(Wire.inBurst(OWN), 109, 0, 64, 1));
        BENCH.due("refused while it is on", Wire.askBriefly(x, Wire.request(OWN, 109, 2)),
                Wire.answer(Wire.inBurst(OWN), 109, 2, 64));
        BENCH.due("has(4)", x.has(4), 1);
    }

    private static void refusedCommandsChangeNothing() {
        LoopDevice x = Wire.calmDevice();
        int[][] refused = {{6, 16}, {6}, {18, 1, 2, 3, 4, 5}, {35, 1, 0, 0, 0, 0, 0, 0, 0, 0}, {35, 1},
            {108, 0}, {108, 2, 2}, {109, 2}, {109, 1, 1}, {11, 1, 2, 3, 4, 5, 6}};
        for (int[] row : refused) {
            Wire.ask(x, Wire.request(OWN, row[0], java.util.Arrays.copyOfRange(row, 1, row.length)));
        }
        asked("nothing changed", x, Wire.request(OWN, 99), Wire.answer(OWN, 99, 64, 0));
        long[] first = {0, 0, 0, 10000, 0, 1};
        for (int what = 0; what < first.length; what++) {
            BENCH.due("has(" + what + ")", x.has(what), first[what]);
        }
        BENCH.due("tag(0)", x.tag(0), 32);
    }
}
