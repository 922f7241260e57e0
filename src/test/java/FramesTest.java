/** FRAME: how the bytes that come are looked at. */
public final class FramesTest {
    private static final Bench BENCH = new Bench("FramesTest");
    private static final int[] BODY = {2, 128, 13, 0};
    private static final int[] FIRST_TAG = Wire.row(6, 32);

    public static void main(String[] args) {
        preambleTooShort();
        preambleOfThree();
        preambleOfMore();
        marks();
        oneRightBehindTheOther();
        anotherByteForTheMark();
        anotherByteLongBefore();
        addressOfOneByteOrFive();
        countsFromZeroToTwenty();
        countsAboveTwenty();
        anewBehindACountAboveTwenty();
        bytesOfAFrameMayBeAnything();
        gapsWithinAFrame();
        gapsBeforeAndBehind();
        anewBehindAGap();
        sumOverAllFromTheMark();
        wrongSums();
        anewBehindTheSum();
        theSumIsNoPreamble();
        bitSevenIsTheMaster();
        bitSixIsNotLookedAt();
        lowSixBitsAreTheShortAddress();
        everyByteOfTheLongAddress();
        aShortAddressIsNotAMaker();
        broadcastOfCommandElevenAlone();
        broadcastWithOtherBits();
        broadcastByALongAddressAlone();
        broadcastNeedsItsSum();
        broadcastIsGoodWithoutAnAnswer();
        broadcastToADeviceOfZeros();
        BENCH.end();
    }

    private static void counted(String what, Device x, int good, int other) {
        BENCH.due("good frames: " + what, x.has(8), good);
        BENCH.due("other frames: " + what, x.has(9), other);
    }

    private static void fed(String what, int good, int other, int... bytes) {
        Device x = Wire.device();
        Wire.feed(x, bytes);
        counted(what, x, good, other);
        BENCH.due("answers: " + what, x.has(6), good);
    }

    /** "at least three bytes 255 (the PREAMBLE)": fewer */
    private static void preambleTooShort() {
        for (int length = 0; length < 3; length++) {
            fed("preamble of " + length, 0, 0, Wire.summed(length, BODY));
        }
    }

    /** "at least three bytes 255 (the PREAMBLE)": as many */
    private static void preambleOfThree() {
        fed("preamble of 3", 1, 0, Wire.summed(3, BODY));
    }

    /** "255 three times or more" */
    private static void preambleOfMore() {
        int[] lengths = {4, 5, 6, 7, 20, 127, 128, 255, 256, 257, 258, 259, 450};
        for (int length : lengths) {
            fed("preamble of " + length, 1, 0, Wire.summed(length, BODY));
        }
    }

    /** "a MARK: 2 with a short address, 130 with a long one" */
    private static void marks() {
        for (int mark = 0; mark < 255; mark++) {
            int[] marked = {mark};
            int[] narrow = Wire.summed(3, Wire.join(marked, Wire.shortAddress(0, 0), new int[] {13, 0}));
            int[] wide = Wire.summed(3, Wire.join(marked, Wire.longAddress(0), new int[] {13, 0}));
            Device x = Wire.device();
            Wire.feed(x, narrow);
            BENCH.due("a short address behind mark " + mark, x.has(8), mark == 2 ? 1 : 0);
            Device y = Wire.device();
            Wire.feed(y, wide);
            BENCH.due("a long address behind mark " + mark, y.has(8), mark == 130 ? 1 : 0);
            if (mark != 2 && mark != 130) {
                counted("mark " + mark, x, 0, 0);
                counted("mark " + mark, y, 0, 0);
            }
        }
    }

    /** "one right behind the other" */
    private static void oneRightBehindTheOther() {
        for (int other = 0; other < 255; other++) {
            fed("255 255 " + other + " 255", 0, 0, Wire.join(new int[] {255, 255, other}, Wire.summed(1, BODY)));
        }
        fed("255 1 255 255", 0, 0, Wire.join(new int[] {255, 1}, Wire.summed(2, BODY)));
        fed("255 255 2 255 255", 0, 0, Wire.join(new int[] {255, 255, 2}, Wire.summed(2, BODY)));
        fed("255 255 130 255 255", 0, 0, Wire.join(new int[] {255, 255, 130}, Wire.summed(2, BODY)));
        fed("255 255 1 255 255 255", 1, 0, Wire.join(new int[] {255, 255, 1}, Wire.summed(3, BODY)));
    }

    /** "another byte (not 255) there begins it anew" */
    private static void anotherByteForTheMark() {
        int[] others = {0, 1, 3, 6, 129, 131, 134, 254};
        for (int other : others) {
            int[] broken = {255, 255, 255, other};
            fed(other + ", then a mark", 0, 0, Wire.join(broken, Wire.summed(0, BODY)));
            fed(other + ", then 255 once", 0, 0, Wire.join(broken, Wire.summed(1, BODY)));
            fed(other + ", then 255 twice", 0, 0, Wire.join(broken, Wire.summed(2, BODY)));
            fed(other + ", then a whole frame", 1, 0, Wire.join(broken, Wire.summed(3, BODY)));
        }
    }

    private static void anotherByteLongBefore() {
        fed("other bytes before", 1, 0, Wire.join(new int[] {1, 2, 130, 255, 7}, Wire.summed(3, BODY)));
    }

    /** "the ADDRESS: one byte, or five" */
    private static void addressOfOneByteOrFive() {
        fed("one byte", 1, 0, 255, 255, 255, 2, 128, 13, 0, 2 ^ 128 ^ 13);
        int sum = 130 ^ 133 ^ 7 ^ 1 ^ 2 ^ 3 ^ 13;
        fed("five bytes", 1, 0, 255, 255, 255, 130, 133, 7, 1, 2, 3, 13, 0, sum);
        fed("four bytes", 0, 0, 255, 255, 255, 130, 133, 7, 1, 2, 13, 0, sum ^ 3);
    }

    /** "a COUNT 0 .. 20; as many bytes" */
    private static void countsFromZeroToTwenty() {
        for (int count = 0; count <= 20; count++) {
            int[] body = Wire.join(new int[] {2, 128, 200, count}, Wire.row(count, 255));
            int[] frame = Wire.summed(3, body);
            Device x = Wire.device();
            for (int i = 0; i < frame.length; i++) {
                counted("count " + count + " before byte " + i, x, 0, 0);
                x.octet(frame[i]);
            }
            counted("count " + count, x, 1, 0);
        }
    }

    /** "so does a count above 20" */
    private static void countsAboveTwenty() {
        for (int count = 21; count < 256; count++) {
            int[] body = Wire.join(new int[] {2, 128, 200, count}, Wire.row(count, 1));
            fed("count " + count, 0, 0, Wire.summed(3, body));
        }
    }

    /** "so does a count above 20": the next frame may follow at once, and needs its own preamble. */
    private static void anewBehindACountAboveTwenty() {
        int[] counts = {21, 22, 32, 64, 128, 130, 148, 254, 255};
        for (int count : counts) {
            int[] broken = {255, 255, 255, 2, 128, 13, count};
            fed("a frame behind count " + count, 1, 0, Wire.join(broken, Wire.summed(3, BODY)));
            fed("only two behind count " + count, 0, 0, Wire.join(broken, Wire.summed(2, BODY)));
            fed("a mark behind count " + count, 0, 0, Wire.join(broken, Wire.summed(0, BODY)));
        }
    }

    /** Bytes 255, marks and counts within a frame are its own bytes, and begin nothing. */
    private static void bytesOfAFrameMayBeAnything() {
        int[] inside = Wire.summed(3, BODY);
        int[] data = Wire.join(inside, Wire.row(4, 255));
        fed("a frame within a frame's data", 1, 0, Wire.request(Wire.shortAddress(0, 0), 255, data));
        fed("a frame within another's data", 0, 1, Wire.request(Wire.shortAddress(0, 9), 255, data));
        fed("a command 255", 1, 0, Wire.request(Wire.shortAddress(0, 0), 255));
        fed("an address of 255", 0, 1, Wire.request(new int[] {255}, 13));
        fed("a long address of 255", 0, 1, Wire.request(Wire.row(5, 255), 255));
    }

    private static int[][] framesToBreak() {
        return new int[][] {
            Wire.request(Wire.shortAddress(0, 0), 6, 0),
            Wire.request(Wire.longAddress(0), 35, 0, 0, 0, 0, 9, 0, 0, 0, 0),
            Wire.request(Wire.broadcast(1), 11, FIRST_TAG),
        };
    }

    private static Device fedWithGap(int[] frame, int gap, int ticks) {
        Device x = Wire.device();
        for (int i = 0; i < frame.length; i++) {
            if (i == gap) {
                x.tick(ticks);
            }
            x.octet(frame[i]);
        }
        return x;
    }

    /** "a tick without a byte within a frame (also within a preamble)" */
    private static void gapsWithinAFrame() {
        for (int[] frame : framesToBreak()) {
            for (int gap = 1; gap < frame.length; gap++) {
                counted("a tick before byte " + gap, fedWithGap(frame, gap, 1), 0, 0);
                counted("many ticks before byte " + gap, fedWithGap(frame, gap, 1000), 0, 0);
            }
        }
    }

    private static void gapsBeforeAndBehind() {
        for (int[] frame : framesToBreak()) {
            counted("a tick before the preamble", fedWithGap(frame, 0, 1), 1, 0);
            Device x = fedWithGap(frame, 0, 1000);
            x.tick(1);
            counted("a tick behind the sum", x, 1, 0);
            BENCH.due("answers: a tick behind the sum", x.has(6), 1);
        }
        Device y = Wire.device();
        Wire.feed(y, 255);
        y.tick(1);
        Wire.feed(y, Wire.summed(3, BODY));
        counted("a tick before three bytes 255", y, 1, 0);
    }

    /** A frame that a tick broke does not harm the next. */
    private static void anewBehindAGap() {
        int[] whole = Wire.summed(3, BODY);
        for (int[] frame : framesToBreak()) {
            for (int length = 1; length < frame.length; length++) {
                Device x = Wire.device();
                Wire.feed(x, java.util.Arrays.copyOf(frame, length));
                x.tick(1);
                Wire.feed(x, whole);
                counted("a frame behind " + length + " bytes and a tick", x, 1, 0);
            }
        }
    }

    /** "the SUM: all bytes from the mark to before it, xored" */
    private static void sumOverAllFromTheMark() {
        for (int bit = 1; bit < 256; bit <<= 1) {
            fed("command " + bit, 1, 0, Wire.request(Wire.shortAddress(0, 0), bit, bit, 0));
            fed("data " + bit, 1, 0, Wire.request(Wire.longAddress(0), 77, 1, bit, bit ^ 85));
        }
        fed("with one byte of the preamble", 0, 1, 255, 255, 255, 2, 128, 13, 0, 2 ^ 128 ^ 13 ^ 255);
        fed("without the mark", 0, 1, 255, 255, 255, 2, 128, 13, 0, 128 ^ 13);
        fed("without the address", 0, 1, 255, 255, 255, 2, 128, 13, 0, 2 ^ 13);
        fed("without the command", 0, 1, 255, 255, 255, 2, 128, 13, 0, 2 ^ 128);
        fed("without the count", 0, 1, 255, 255, 255, 2, 128, 77, 1, 9, 2 ^ 128 ^ 77 ^ 9);
        fed("without the data", 0, 1, 255, 255, 255, 2, 128, 77, 1, 9, 2 ^ 128 ^ 77 ^ 1);
        fed("added instead", 0, 1, 255, 255, 255, 2, 128, 3, 0, 2 + 128 + 3);
    }

    /** "A frame is GOOD if its sum is right" */
    private static void wrongSums() {
        for (int flip = 1; flip < 256; flip++) {
            int[] frame = Wire.summed(3, BODY);
            frame[frame.length - 1] ^= flip;
            fed("a sum with " + flip + " wrong", 0, 1, frame);
        }
        int[] wide = Wire.request(Wire.longAddress(0), 18, 1, 2, 3, 4, 5, 6);
        wide[wide.length - 1] ^= 16;
        Device x = Wire.device();
        Wire.feed(x, wide);
        BENCH.due("the tag behind a wrong sum", x.tag(0), 32);
        BENCH.due("no answer to a wrong sum", x.tick(1000), 0);
    }

    /** "When the sum is there the frame has ENDED, and it begins anew." */
    private static void anewBehindTheSum() {
        int[] other = Wire.request(Wire.shortAddress(0, 3), 13);
        int[] own = Wire.request(Wire.shortAddress(0, 0), 13);
        fed("a frame right behind another", 1, 1, Wire.join(other, own));
        fed("without a preamble of its own", 0, 1, Wire.join(other, Wire.summed(0, BODY)));
        fed("with two bytes of a preamble", 0, 1, Wire.join(other, Wire.summed(2, BODY)));
        int[] wrong = own.clone();
        wrong[wrong.length - 1] ^= 64;
        fed("a frame right behind a wrong sum", 1, 1, Wire.join(wrong, own));
        fed("many in a row", 1, 4, Wire.join(other, other, wrong, other, own));
        int[] unanswered = Wire.request(Wire.broadcast(0), 11, 1, 2, 3, 4, 5, 6);
        Device x = Wire.device();
        Wire.feed(x, Wire.join(unanswered, own));
        counted("a frame right behind a broadcast", x, 2, 0);
        BENCH.due("answers: a frame right behind a broadcast", x.has(6), 1);
    }

    /** A sum of 255 belongs to its frame: it is not the first byte of the next preamble. */
    private static void theSumIsNoPreamble() {
        int[] sum255 = Wire.request(Wire.shortAddress(0, 3), 2 ^ 131 ^ 255);
        BENCH.due("the sum", sum255[sum255.length - 1], 255);
        fed("two bytes 255 behind a sum of 255", 0, 1, Wire.join(sum255, Wire.summed(2, BODY)));
        fed("three bytes 255 behind a sum of 255", 1, 1, Wire.join(sum255, Wire.summed(3, BODY)));
    }

    /** "The first byte of the address has the master as its bit 7 (0: master 1, 1: master 0)" */
    private static void bitSevenIsTheMaster() {
        int[][] addresses = {{0}, {128}, {5, 7, 1, 2, 3}, {133, 7, 1, 2, 3}};
        for (int[] address : addresses) {
            Device x = Wire.device();
            Wire.ask(x, Wire.request(address, 38));
            int[] told = address.clone();
            BENCH.due("the same master again", Wire.ask(x, Wire.request(address, 77)), Wire.answer(told, 77, 64, 0));
            told[0] ^= 128;
            BENCH.due("the other master", Wire.ask(x, Wire.request(told, 77)), Wire.answer(told, 77, 64, 96));
        }
    }

    /** "bit 6 is not looked at" */
    private static void bitSixIsNotLookedAt() {
        fed("a short address with bit 6", 1, 0, Wire.request(new int[] {64}, 13));
        fed("a short address with bits 6 and 7", 1, 0, Wire.request(new int[] {192}, 13));
        fed("a long address with bit 6", 1, 0, Wire.request(new int[] {64 + 5, 7, 1, 2, 3}, 13));
        fed("a long address with bits 6 and 7", 1, 0, Wire.request(new int[] {192 + 5, 7, 1, 2, 3}, 13));
        fed("a broadcast with bit 6", 1, 0, Wire.request(new int[] {64, 0, 0, 0, 0}, 11, FIRST_TAG));
        fed("a broadcast with bits 6 and 7", 1, 0, Wire.request(new int[] {192, 0, 0, 0, 0}, 11, FIRST_TAG));
    }

    /** "bits 0 .. 5 are the short address"; "the short address is its own" */
    private static void lowSixBitsAreTheShortAddress() {
        int[] addresses = {0, 9, 15};
        for (int address : addresses) {
            for (int first = 0; first < 256; first++) {
                Device x = Wire.device();
                Wire.ask(x, Wire.request(Wire.shortAddress(0, 0), 6, address));
                Wire.feed(x, Wire.request(new int[] {first}, 13));
                boolean own = (first & 63) == address;
                counted("first byte " + first + " for " + address, x, own ? 2 : 1, own ? 0 : 1);
            }
        }
    }

    /** "or the long one" */
    private static void everyByteOfTheLongAddress() {
        int[] own = Wire.longAddress(0);
        for (int at = 0; at < 5; at++) {
            for (int bit = 1; bit < 256; bit <<= 1) {
                int[] address = own.clone();
                address[at] ^= bit;
                boolean same = at == 0 && bit >= 64;
                fed("byte " + at + " of the long address with " + bit + " other",
                        same ? 1 : 0, same ? 0 : 1, Wire.request(address, 13));
            }
        }
    }

    private static void aShortAddressIsNotAMaker() {
        Device x = new Device(9, 0, 0);
        Wire.feed(x, Wire.request(Wire.shortAddress(0, 9), 13));
        counted("the maker as a short address", x, 0, 1);
        Device y = new Device(9, 0, 0);
        Wire.feed(y, Wire.request(Wire.broadcast(0), 13));
        counted("the short address as a maker", y, 0, 1);
    }

    /** "or command 11 with a long address of five bytes [..] 0 (BROADCAST)": no other command */
    private static void broadcastOfCommandElevenAlone() {
        fed("broadcast of the tag", 1, 0, Wire.request(Wire.broadcast(0), 11, FIRST_TAG));
        fed("broadcast of master 1", 1, 0, Wire.request(Wire.broadcast(1), 11, FIRST_TAG));
        for (int command = 0; command < 256; command++) {
            if (command != 11) {
                fed("broadcast of command " + command, 0, 1, Wire.request(Wire.broadcast(0), command));
            }
        }
    }

    /** "whose bits 0 .. 5 and other bytes are 0" */
    private static void broadcastWithOtherBits() {
        for (int at = 0; at < 5; at++) {
            for (int bit = 1; bit < (at == 0 ? 64 : 256); bit <<= 1) {
                int[] address = Wire.broadcast(0);
                address[at] |= bit;
                fed("broadcast with byte " + at + " of " + bit, 0, 1, Wire.request(address, 11, FIRST_TAG));
            }
        }
    }

    /** "command 11 with a long address": a short address of 0 is no broadcast. */
    private static void broadcastByALongAddressAlone() {
        Device x = Wire.device();
        Wire.ask(x, Wire.request(Wire.shortAddress(0, 0), 6, 5));
        Wire.feed(x, Wire.request(Wire.shortAddress(0, 0), 11, FIRST_TAG));
        counted("short address 0 for device 5", x, 1, 1);
        BENCH.due("answers: short address 0 for device 5", x.has(6), 1);
        Device y = Wire.device();
        int[] own = Wire.shortAddress(0, 0);
        BENCH.due("short address 0 and another tag", Wire.ask(y, Wire.request(own, 11, 1, 2, 3, 4, 5, 6)),
                Wire.answer(own, 11, 65, 96));
    }

    private static void broadcastNeedsItsSum() {
        int[] wrongSum = Wire.request(Wire.broadcast(0), 11, FIRST_TAG);
        wrongSum[wrongSum.length - 1] ^= 1;
        fed("broadcast with a wrong sum", 0, 1, wrongSum);
    }

    /** "(one with BROADCAST only by command 11 that finds its tag)" */
    private static void broadcastIsGoodWithoutAnAnswer() {
        unansweredBroadcast("another tag", 1, 32, 32, 32, 32, 32);
        unansweredBroadcast("another end of the tag", 32, 32, 32, 32, 32, 33);
        unansweredBroadcast("a count of 5", 32, 32, 32, 32, 32);
        unansweredBroadcast("a count of 7", 32, 32, 32, 32, 32, 32, 32);
        unansweredBroadcast("a count of 0");
        unansweredBroadcast("a count of 20", Wire.row(20, 32));
    }

    private static void unansweredBroadcast(String what, int... tag) {
        Device x = Wire.device();
        BENCH.due("answer to " + what, Wire.ask(x, Wire.request(Wire.broadcast(0), 11, tag)), new int[0]);
        counted(what, x, 1, 0);
        BENCH.due("answers to " + what, x.has(6), 0);
        int[] own = Wire.longAddress(0);
        BENCH.due("still cold behind " + what, Wire.ask(x, Wire.request(own, 200)), Wire.answer(own, 200, 64, 96));
    }

    /** Its own address is that of a broadcast: command 11 to it is one, all others are not. */
    private static void broadcastToADeviceOfZeros() {
        Device x = new Device(0, 0, 0);
        int[] own = Wire.broadcast(0);
        BENCH.due("another tag", Wire.ask(x, Wire.request(own, 11, 1, 2, 3, 4, 5, 6)), new int[0]);
        counted("another tag for a device of zeros", x, 1, 0);
        BENCH.due("its tag", Wire.ask(x, Wire.request(own, 11, FIRST_TAG)),
                Wire.answer(own, 11, 0, 96, 254, 0, 0, 5, 0, 0, 0));
        BENCH.due("another command", Wire.ask(x, Wire.request(own, 38)), Wire.answer(own, 38, 0, 0));
    }
}
