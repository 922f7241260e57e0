/** Promises 2 and 3: octet and octets. */
public final class OctetTest {
    private static final Bench BENCH = new Bench("OctetTest");

    public static void main(String[] args) {
        aByteTakesATick();
        lowestEightBitsCount();
        highestByteFirst();
        fourBytesTakeFourTicks();
        octetTellsWhatWentOut();
        octetsTellWhatWentOut();
        octetsAreFourOctets();
        BENCH.end();
    }

    private static void aByteTakesATick() {
        LoopDevice x = Wire.device();
        BENCH.due("octet(0)", x.octet(0), 0);
        BENCH.due("now() behind a byte", x.now(), 1);
    }

    private static void lowestEightBitsCount() {
        int[] above = {256, -256, 0x7FFFFF00, Integer.MIN_VALUE};
        for (int high : above) {
            LoopDevice x = Wire.device();
            for (int b : Wire.request(Wire.shortAddress(0, 0), 13)) {
                x.octet(high + b);
            }
            BENCH.due("good frames with bits of " + high + " above", x.has(8), 1);
        }
    }

    private static void highestByteFirst() {
        LoopDevice x = Wire.device();
        x.octets(0xFFFFFF02);
        x.octets(0x80000082);
        BENCH.due("good frames of two words", x.has(8), 1);
        LoopDevice y = Wire.device();
        y.octets(0x02FFFFFF);
        y.octets(0x82000080);
        BENCH.due("good frames of two words turned round", y.has(8), 0);
    }

    private static void fourBytesTakeFourTicks() {
        LoopDevice x = Wire.device();
        BENCH.due("octets(0)", x.octets(0), 0);
        BENCH.due("now() behind four bytes", x.now(), 4);
    }

    private static void octetTellsWhatWentOut() {
        LoopDevice x = Wire.device();
        Wire.feed(x, Wire.request(Wire.shortAddress(0, 0), 38));
        for (int i = 0; i < 16; i++) {
            BENCH.due("octet " + i + " behind the sum", x.octet(255), Math.min(Math.max(i, 0), 12));
        }
    }

    private static void octetsTellWhatWentOut() {
        LoopDevice x = Wire.device();
        Wire.feed(x, Wire.request(Wire.shortAddress(0, 0), 38));
        int[] due = {3, 7, 11, 12};
        for (int want : due) {
            BENCH.due("octets(0) behind the sum", x.octets(0), want);
        }
    }

    private static void octetsAreFourOctets() {
        LoopDevice x = Wire.device();
        LoopDevice y = Wire.device();
        int[] bytes = Wire.request(Wire.longAddress(1), 109, 1);
        int[] whole = Wire.join(bytes, Wire.row(4 - bytes.length % 4, 17), Wire.row(60, 255));
        for (int i = 0; i < whole.length; i += 4) {
            int word = whole[i] << 24 | whole[i + 1] << 16 | whole[i + 2] << 8 | whole[i + 3];
            int total = Wire.feed(y, whole[i], whole[i + 1], whole[i + 2], whole[i + 3]);
            BENCH.due("octets(" + word + ")", x.octets(word), total);
            BENCH.due("now() behind it", x.now(), y.now());
        }
        BENCH.due("what went out", Wire.sentBetween(x, 0, 30), Wire.sentBetween(y, 0, 30));
    }
}
