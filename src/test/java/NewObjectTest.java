/** Promise 1: a new object. */
public final class NewObjectTest {
    private static final Bench BENCH = new Bench("NewObjectTest");

    public static void main(String[] args) {
        nothingCame();
        holdsWhatIsThereAtFirst();
        identity(5, 7, 66051, 5, 7, 1, 2, 3);
        identity(0, 0, 0, 0, 0, 0, 0, 0);
        identity(63, 255, 0xFFFFFF, 63, 255, 255, 255, 255);
        identity(64, 256, 0x1000000, 0, 0, 0, 0, 0);
        identity(64 + 5, 256 + 7, 0x7F010203, 5, 7, 1, 2, 3);
        identity(-1, -1, -1, 63, 255, 255, 255, 255);
        identity(Integer.MIN_VALUE, Integer.MAX_VALUE, Integer.MIN_VALUE + 1, 0, 255, 0, 0, 1);
        objectsAreApart();
        BENCH.end();
    }

    private static void nothingCame() {
        LoopDevice x = Wire.device();
        BENCH.due("NONE", LoopDevice.NONE, -1);
        BENCH.due("now()", x.now(), 0);
        BENCH.due("sent(0)", x.sent(0), -1);
        BENCH.due("when(0)", x.when(0), -1);
        BENCH.due("tick(1000)", x.tick(1000), 0);
    }

    private static void holdsWhatIsThereAtFirst() {
        LoopDevice x = Wire.device();
        long[] first = {0, 0, 0, 10000, 0, 1, 0, 0, 0, 0};
        for (int what = 0; what < first.length; what++) {
            BENCH.due("has(" + what + ")", x.has(what), first[what]);
        }
        for (int i = 0; i < 6; i++) {
            BENCH.due("tag(" + i + ")", x.tag(i), 32);
        }
        for (int i = 0; i < 4; i++) {
            BENCH.due("variable(" + i + ", 0)", x.variable(i, 0), 0);
        }
        BENCH.due("failure(false)", x.failure(false), 0);
        int[] own = Wire.shortAddress(0, 0);
        BENCH.due("the first status of master 0", Wire.ask(x, Wire.request(own, 38)), Wire.answer(own, 38, 0, 32));
        own = Wire.shortAddress(1, 0);
        BENCH.due("the first status of master 1", Wire.ask(x, Wire.request(own, 108)), Wire.answer(own, 108, 5, 96));
    }

    private static void identity(int maker, int kind, int number, int... bytes) {
        LoopDevice x = new LoopDevice(maker, kind, number);
        int[] own = {128 | bytes[0], bytes[1], bytes[2], bytes[3], bytes[4]};
        int[] due = Wire.answer(own, 0, 0, 96, 254, bytes[0], bytes[1], 5, bytes[2], bytes[3], bytes[4]);
        BENCH.due("identity of " + maker + ", " + kind + ", " + number, Wire.ask(x, Wire.request(own, 0)), due);
    }

    private static void objectsAreApart() {
        LoopDevice x = Wire.device();
        LoopDevice y = Wire.device();
        Wire.ask(x, Wire.request(Wire.shortAddress(0, 0), 18, 1, 2, 3, 4, 5, 6));
        x.variable(0, 9);
        BENCH.due("tag of another object", y.tag(0), 32);
        BENCH.due("variable of another object", y.variable(0, 1), 0);
        BENCH.due("ticks of another object", y.now(), 0);
    }
}
