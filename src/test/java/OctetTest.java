/** Promises 2 and 3: octet and octets. */
public final class OctetTest {
    private static final Bench BENCH = new Bench("OctetTest");

    public static void main(String[] args) {
        aByteTakesATick();
        fourBytesTakeFourTicks();
        lowestEightBits();
        edgesOfAByte();
        highestByteFirst();
        everyBitOfAWord();
        octetTellsWhatWentOut();
        octetsTellWhatWentOut();
        octetsAreFourOctets();
        aFrameAcrossBoth();
        anAnswerBeginsWithinAWord();
        BENCH.end();
    }

    /** "A byte comes [..] in the next tick"; "a byte that comes, or goes out, takes one" */
    private static void aByteTakesATick() {
        Device x = Wire.device();
        BENCH.due("octet(0)", x.octet(0), 0);
        BENCH.due("now() behind a byte", x.now(), 1);
        BENCH.due("octet(255)", x.octet(255), 0);
        BENCH.due("now() behind two", x.now(), 2);
    }

    /** "Four bytes come [..] in the next four ticks" */
    private static void fourBytesTakeFourTicks() {
        Device x = Wire.device();
        BENCH.due("octets(0)", x.octets(0), 0);
        BENCH.due("now() behind four bytes", x.now(), 4);
        BENCH.due("octets(-1)", x.octets(-1), 0);
        BENCH.due("now() behind eight bytes", x.now(), 8);
    }

    /** "(the lowest eight bits of b)" */
    private static void lowestEightBits() {
        int[] above = {256, 0x8000, -256, 0x7FFFFF00, Integer.MIN_VALUE};
        for (int high : above) {
            Device x = Wire.device();
            for (int b : Wire.request(Wire.shortAddress(0, 0), 13)) {
                x.octet(high | b);
            }
            BENCH.due("good frames with bits of " + high + " above", x.has(8), 1);
        }
    }

    /** "BYTES are 0 .. 255": -1 is the byte 255, and 256 is the byte 0. */
    private static void edgesOfAByte() {
        Device x = Wire.device();
        Wire.feed(x, -1, -1, -1, 2 - 256, 128 + 256, 256, Integer.MIN_VALUE, 130);
        BENCH.due("good frames", x.has(8), 1);
        BENCH.due("now()", x.now(), 8);
    }

    /** "the highest one first" */
    private static void highestByteFirst() {
        Device x = Wire.device();
        x.octets(0xFFFFFF02);
        x.octets(0x80000082);
        BENCH.due("good frames of two words", x.has(8), 1);
        Device y = Wire.device();
        y.octets(0x02FFFFFF);
        y.octets(0x82000080);
        BENCH.due("good frames of two words turned round", y.has(8), 0);
    }

    /** Each byte of a word comes whole: a tag of single bits is written by words. */
    private static void everyBitOfAWord() {
        for (int bit = 0; bit < 32; bit++) {
            int word = 1 << bit;
            int[] tag = Wire.join(Wire.four(word), Wire.row(2, 0));
            Device x = Wire.device();
            x.octets(0xFFFFFF02);
            Wire.feed(x, 128, 18, 6);
            x.octets(word);
            Wire.feed(x, 0, 0, 2 ^ 128 ^ 18 ^ 6 ^ tag[0] ^ tag[1] ^ tag[2] ^ tag[3]);
            int[] got = {x.tag(0), x.tag(1), x.tag(2), x.tag(3), x.tag(4), x.tag(5)};
            BENCH.due("a tag of the word " + word, got, tag);
        }
    }

    /** "how many bytes went out in all" */
    private static void octetTellsWhatWentOut() {
        Device x = Wire.device();
        Wire.feed(x, Wire.request(Wire.shortAddress(0, 0), 38));
        for (int i = 0; i < 16; i++) {
            BENCH.due("octet " + i + " behind the sum", x.octet(255), Math.min(i, 12));
        }
        BENCH.due("the next answer is told with those before", Wire.feed(x, Wire.request(Wire.shortAddress(0, 0), 38)), 12);
        BENCH.due("in all", x.tick(40), 24);
    }

    /** "how many bytes went out in all" */
    private static void octetsTellWhatWentOut() {
        Device x = Wire.device();
        Wire.feed(x, Wire.request(Wire.shortAddress(0, 0), 38));
        int[] due = {3, 7, 11, 12, 12};
        for (int want : due) {
            BENCH.due("octets(0) behind the sum", x.octets(0), want);
        }
    }

    private static void octetsAreFourOctets() {
        Device x = Wire.device();
        Device y = Wire.device();
        int[] bytes = Wire.request(Wire.longAddress(1), 109, 1);
        int[] whole = Wire.join(bytes, Wire.row(4 - bytes.length % 4, 17), Wire.row(60, 255));
        for (int i = 0; i < whole.length; i += 4) {
            int word = whole[i] << 24 | whole[i + 1] << 16 | whole[i + 2] << 8 | whole[i + 3];
            int total = Wire.feed(y, whole[i], whole[i + 1], whole[i + 2], whole[i + 3]);
            BENCH.due("octets(" + word + ")", x.octets(word), total);
            BENCH.due("now() behind it", x.now(), y.now());
        }
        BENCH.due("what went out", Wire.sentBetween(x, 0, 17), Wire.sentBetween(y, 0, 17));
    }

    /** There is no tick without a byte between one call and the next. */
    private static void aFrameAcrossBoth() {
        Device x = Wire.device();
        x.octet(255);
        x.octets(0xFFFF0280);
        x.octet(0);
        x.octets(0x00820000);
        BENCH.due("good frames", x.has(8), 1);
        BENCH.due("now()", x.now(), 10);
    }

    private static void anAnswerBeginsWithinAWord() {
        Device x = Wire.device();
        x.octets(0xFFFFFFFF);
        x.octets(0x02800000);
        BENCH.due("the sum, and three bytes more", x.octets(0x82000000), 2);
        BENCH.due("when(0)", x.when(0), 10);
    }
}
