/** Promise 1, and what the terms say of a device at first. */
public final class NewObjectTest {
    private static final Bench BENCH = new Bench("NewObjectTest");

    public static void main(String[] args) {
        nothingCame();
        noTicksAtFirst();
        shortAddressAtFirst();
        tagAtFirst();
        variablesAtFirst();
        unitAndEndsAtFirst();
        flagsAtFirst();
        failureAtFirst();
        burstAtFirst();
        ordinaryIdentity();
        smallestIdentity();
        largestIdentity();
        lowestSixBitsOfTheMaker();
        lowestEightBitsOfTheKind();
        lowestBitsOfTheNumber();
        objectsAreApart();
        BENCH.end();
    }

    /** "nothing came" */
    private static void nothingCame() {
        Device x = Wire.device();
        BENCH.due("NONE", LoopDevice.NONE, -1);
        BENCH.due("answers", x.has(6), 0);
        BENCH.due("bursts", x.has(7), 0);
        BENCH.due("good frames", x.has(8), 0);
        BENCH.due("other frames", x.has(9), 0);
        BENCH.due("sent(0)", x.sent(0), -1);
        BENCH.due("when(0)", x.when(0), -1);
        BENCH.due("tick(1000)", x.tick(1000), 0);
    }

    /** "TIME is in TICKS, 0 at first" */
    private static void noTicksAtFirst() {
        BENCH.due("now()", Wire.device().now(), 0);
    }

    /** "a SHORT one (0 .. 15, 0 at first)" */
    private static void shortAddressAtFirst() {
        Device x = Wire.device();
        BENCH.due("has(0)", x.has(0), 0);
        Wire.feed(x, Wire.request(Wire.shortAddress(0, 0), 0));
        BENCH.due("good frames to short address 0", x.has(8), 1);
    }

    /** "a TAG of six bytes (32 at first)" */
    private static void tagAtFirst() {
        for (int i = 0; i < 6; i++) {
            BENCH.due("tag(" + i + ")", Wire.device().tag(i), 32);
        }
    }

    /** "four VARIABLES (numbers of 32 bits with their sign, 0 at first)" */
    private static void variablesAtFirst() {
        for (int i = 0; i < 4; i++) {
            BENCH.due("variable(" + i + ", 1)", Wire.device().variable(i, 1), 0);
        }
        int[] own = Wire.shortAddress(0, 0);
        int[] data = Wire.join(Wire.four(4000), Wire.row(16, 0));
        BENCH.due("all variables", Wire.ask(Wire.device(), Wire.request(own, 3)), Wire.answer(own, 3, 0, 96, data));
    }

    /** "a UNIT 0 .. 255 (0), a LOWER and an UPPER end (0 and 10000)" */
    private static void unitAndEndsAtFirst() {
        Device x = Wire.device();
        BENCH.due("unit", x.has(1), 0);
        BENCH.due("lower end", x.has(2), 0);
        BENCH.due("upper end", x.has(3), 10000);
    }

    /** "two flags for each MASTER (0, 1): CHANGED and COLD (both are set at first)" */
    private static void flagsAtFirst() {
        for (int master = 0; master < 2; master++) {
            int[] own = Wire.shortAddress(master, 0);
            BENCH.due("the first status of master " + master,
                    Wire.ask(Wire.device(), Wire.request(own, 77)), Wire.answer(own, 77, 64, 64 + 32));
        }
    }

    /** "a flag for its FAILURE": the document does not say that it is set at first. */
    private static void failureAtFirst() {
        BENCH.due("failure(false)", Wire.device().failure(false), 0);
        BENCH.due("failure(true)", Wire.device().failure(true), 1);
    }

    /** "the burst's command (1 at first)"; BURST itself is turned on by 109 alone. */
    private static void burstAtFirst() {
        BENCH.due("BURST", Wire.device().has(4), 0);
        BENCH.due("the burst's command", Wire.device().has(5), 1);
    }

    private static void identity(int maker, int kind, int number, int... bytes) {
        Device x = new Device(maker, kind, number);
        int[] own = {128 | bytes[0], bytes[1], bytes[2], bytes[3], bytes[4]};
        int[] due = Wire.answer(own, 0, 0, 96, 254, bytes[0], bytes[1], 5, bytes[2], bytes[3], bytes[4]);
        BENCH.due("identity of " + maker + ", " + kind + ", " + number, Wire.ask(x, Wire.request(own, 0)), due);
    }

    /** "a maker 0 .. 63, a kind 0 .. 255, a number of three bytes, highest first" */
    private static void ordinaryIdentity() {
        identity(5, 7, 66051, 5, 7, 1, 2, 3);
        identity(40, 150, 0xC0B0A0, 40, 150, 0xC0, 0xB0, 0xA0);
    }

    private static void smallestIdentity() {
        identity(0, 0, 0, 0, 0, 0, 0, 0);
    }

    private static void largestIdentity() {
        identity(63, 255, 0xFFFFFF, 63, 255, 255, 255, 255);
    }

    /** "a maker (lowest six bits)" */
    private static void lowestSixBitsOfTheMaker() {
        identity(64, 7, 66051, 0, 7, 1, 2, 3);
        identity(128 + 64 + 63, 7, 66051, 63, 7, 1, 2, 3);
        identity(-1, 7, 66051, 63, 7, 1, 2, 3);
        identity(Integer.MIN_VALUE, 7, 66051, 0, 7, 1, 2, 3);
        identity(Integer.MAX_VALUE - 1, 7, 66051, 62, 7, 1, 2, 3);
    }

    /** "a kind (lowest eight)" */
    private static void lowestEightBitsOfTheKind() {
        identity(5, 256, 66051, 5, 0, 1, 2, 3);
        identity(5, 511, 66051, 5, 255, 1, 2, 3);
        identity(5, -1, 66051, 5, 255, 1, 2, 3);
        identity(5, Integer.MIN_VALUE + 1, 66051, 5, 1, 1, 2, 3);
        identity(5, Integer.MAX_VALUE, 66051, 5, 255, 1, 2, 3);
    }

    /** "a number (lowest 24)" */
    private static void lowestBitsOfTheNumber() {
        identity(5, 7, 0x1000000, 5, 7, 0, 0, 0);
        identity(5, 7, 0x1FFFFFF, 5, 7, 255, 255, 255);
        identity(5, 7, -1, 5, 7, 255, 255, 255);
        identity(5, 7, 0x80010203, 5, 7, 1, 2, 3);
        identity(5, 7, Integer.MAX_VALUE, 5, 7, 255, 255, 255);
    }

    private static void objectsAreApart() {
        Device x = Wire.device();
        Device y = Wire.device();
        Wire.ask(x, Wire.request(Wire.shortAddress(0, 0), 18, 1, 2, 3, 4, 5, 6));
        x.variable(0, 9);
        BENCH.due("tag of another object", y.tag(0), 32);
        BENCH.due("variable of another object", y.variable(0, 1), 0);
        BENCH.due("ticks of another object", y.now(), 0);
        BENCH.due("bytes of another object", y.sent(0), LoopDevice.NONE);
    }
}
