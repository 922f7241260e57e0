/** How the bytes that come are looked at: marks, counts, sums, addresses, gaps. */
public final class FramesTest {
    private static final Bench BENCH = new Bench("FramesTest");
    private static final int[] BODY = {2, 128, 13, 0};

    public static void main(String[] args) {
        preambles();
        marks();
        whatBreaksAPreamble();
        counts();
        gapsBeginAnew();
        sums();
        shortAddresses();
        longAddresses();
        aMarkTellsWhichAddress();
        broadcasts();
        nextFrameRightBehind();
        bytesOfAFrameAreNoPreamble();
        BENCH.end();
    }

    private static void counted(String what, LoopDevice x, int good, int other) {
        BENCH.due("good frames: " + what, x.has(8), good);
        BENCH.due("other frames: " + what, x.has(9), other);
    }

    private static void fed(String what, int good, int other, int... bytes) {
        LoopDevice x = Wire.device();
        Wire.feed(x, bytes);
        counted(what, x, good, other);
        BENCH.due("answers: " + what, x.has(6), good);
    }

    private static void preambles() {
        for (int length = 0; length < 3; length++) {
            fed("preamble of " + length, 0, 0, Wire.summed(length, BODY));
        }
        for (int length = 3; length < 300; length += 99) {
            fed("preamble of " + length, 1, 0, Wire.summed(length, BODY));
        }
        fed("preamble of 4", 1, 0, Wire.summed(4, BODY));
    }

    private static void marks() {
        for (int mark = 0; mark < 255; mark++) {
            boolean right = mark == 2 || mark == 130;
            int[] address = mark == 130 ? Wire.longAddress(0) : Wire.shortAddress(0, 0);
            int[] body = Wire.join(new int[] {mark}, address, new int[] {13, 0});
            fed("mark " + mark, right ? 1 : 0, 0, Wire.summed(3, body));
        }
    }

    private static void whatBreaksAPreamble() {
        int[] frame = Wire.summed(3, BODY);
        fed("other bytes before", 1, 0, Wire.join(new int[] {1, 2, 130, 255, 7}, frame));
        fed("another byte within", 0, 0, Wire.join(new int[] {255, 255, 1}, Wire.summed(2, BODY)));
        fed("another byte behind it", 0, 0, Wire.join(Wire.row(3, 255), new int[] {1}, BODY, new int[] {143}));
        fed("a mark too early", 0, 0, Wire.join(new int[] {255, 255, 2}, Wire.summed(2, BODY)));
        fed("anew behind another byte", 1, 0, Wire.join(Wire.row(3, 255), new int[] {1}, frame));
    }

    private static void counts() {
        for (int count = 0; count <= 20; count++) {
            int[] body = Wire.join(new int[] {2, 128, 200, count}, Wire.row(count, 255));
            fed("count " + count, 1, 0, Wire.summed(3, body));
        }
        for (int count = 21; count < 256; count++) {
            int[] body = Wire.join(new int[] {2, 128, 200, count}, Wire.row(count, 1));
            fed("count " + count, 0, 0, Wire.summed(3, body));
        }
        int[] tooMany = {255, 255, 255, 2, 128, 13, 21};
        fed("anew behind a count above 20", 1, 0, Wire.join(tooMany, Wire.summed(3, BODY)));
        fed("only two behind it", 0, 0, Wire.join(tooMany, Wire.summed(2, BODY)));
    }

    private static void gapsBeginAnew() {
        int[][] frames = {
            Wire.request(Wire.shortAddress(0, 0), 6, 0),
            Wire.request(Wire.longAddress(0), 6, 0),
        };
        for (int[] frame : frames) {
            for (int gap = 0; gap <= frame.length; gap++) {
                LoopDevice x = Wire.device();
                for (int i = 0; i < frame.length; i++) {
                    if (i == gap) {
                        x.tick(1);
                    }
                    x.octet(frame[i]);
                }
                boolean within = gap > 0 && gap < frame.length;
                counted("a gap before byte " + gap, x, within ? 0 : 1, 0);
            }
        }
        LoopDevice x = Wire.device();
        Wire.feed(x, 255, 255, 255, 2, 128);
        x.tick(1);
        Wire.feed(x, frames[0]);
        counted("a whole frame behind a gap", x, 1, 0);
    }

    private static void sums() {
        for (int flip = 1; flip < 256; flip <<= 1) {
            int[] frame = Wire.summed(3, BODY);
            frame[frame.length - 1] ^= flip;
            fed("a sum with " + flip + " wrong", 0, 1, frame);
        }
        int[] preambleInSum = Wire.summed(3, BODY);
        preambleInSum[preambleInSum.length - 1] ^= 255;
        fed("a sum with a byte of the preamble", 0, 1, preambleInSum);
    }

    private static void shortAddresses() {
        for (int first = 0; first < 256; first++) {
            LoopDevice x = Wire.device();
            Wire.ask(x, Wire.request(Wire.shortAddress(0, 0), 6, 9));
            Wire.feed(x, Wire.request(new int[] {first}, 13));
            boolean own = (first & 63) == 9;
            counted("first byte " + first, x, own ? 2 : 1, own ? 0 : 1);
        }
    }

    private static void longAddresses() {
        int[] own = Wire.longAddress(0);
        for (int at = 0; at < 5; at++) {
            for (int bit = 1; bit < 256; bit <<= 1) {
                int[] address = own.clone();
                address[at] ^= bit;
                boolean same = at == 0 && bit >= 64;
                fed("byte " + at + " of the long address with " + bit + " other",
                        same ? 1 : 0, same ? 0 : 1, Wire.request(address, 13));
            }
        }
    }

    private static void aMarkTellsWhichAddress() {
        LoopDevice x = new LoopDevice(9, 0, 0);
        Wire.feed(x, Wire.request(Wire.shortAddress(0, 9), 13));
        counted("the maker as a short address", x, 0, 1);
        LoopDevice y = new LoopDevice(9, 0, 0);
        Wire.feed(y, Wire.request(Wire.broadcast(0), 13));
        counted("the short address as a maker", y, 0, 1);
    }

    private static void broadcasts() {
        int[] tag = Wire.row(6, 32);
        fed("broadcast of the tag", 1, 0, Wire.request(Wire.broadcast(0), 11, tag));
        fed("broadcast of master 1", 1, 0, Wire.request(Wire.broadcast(1), 11, tag));
        fed("broadcast with bit 6", 1, 0, Wire.request(new int[] {192, 0, 0, 0, 0}, 11, tag));
        for (int command = 0; command < 256; command++) {
            if (command != 11) {
                fed("broadcast of command " + command, 0, 1, Wire.request(Wire.broadcast(0), command));
            }
        }
        for (int at = 0; at < 5; at++) {
            int[] address = Wire.broadcast(0);
            address[at] |= 32;
            fed("broadcast with byte " + at + " not 0", 0, 1, Wire.request(address, 11, tag));
        }
        int[] wrongSum = Wire.request(Wire.broadcast(0), 11, tag);
        wrongSum[wrongSum.length - 1] ^= 1;
        fed("broadcast with a wrong sum", 0, 1, wrongSum);
        unansweredBroadcast("another tag", 1, 32, 32, 32, 32, 32);
        unansweredBroadcast("another end of the tag", 32, 32, 32, 32, 32, 33);
        unansweredBroadcast("a count of 5", 32, 32, 32, 32, 32);
        unansweredBroadcast("a count of 7", 32, 32, 32, 32, 32, 32, 32);
        unansweredBroadcast("a count of 0");
        broadcastToADeviceOfZeros();
    }

    /** Its own address is that of a broadcast: command 11 to it is one, all others are not. */
    private static void broadcastToADeviceOfZeros() {
        LoopDevice x = new LoopDevice(0, 0, 0);
        int[] own = Wire.broadcast(0);
        BENCH.due("another tag", Wire.ask(x, Wire.request(own, 11, 1, 2, 3, 4, 5, 6)), new int[0]);
        counted("another tag for a device of zeros", x, 1, 0);
        BENCH.due("its tag", Wire.ask(x, Wire.request(own, 11, Wire.row(6, 32))),
                Wire.answer(own, 11, 0, 96, 254, 0, 0, 5, 0, 0, 0));
        BENCH.due("another command", Wire.ask(x, Wire.request(own, 38)), Wire.answer(own, 38, 0, 0));
    }

    private static void unansweredBroadcast(String what, int... tag) {
        LoopDevice x = Wire.device();
        BENCH.due("answer to " + what, Wire.ask(x, Wire.request(Wire.broadcast(0), 11, tag)), new int[0]);
        counted(what, x, 1, 0);
        BENCH.due("answers to " + what, x.has(6), 0);
        int[] own = Wire.longAddress(0);
        BENCH.due("still cold behind " + what, Wire.ask(x, Wire.request(own, 200)), Wire.answer(own, 200, 64, 96));
    }

    private static void nextFrameRightBehind() {
        int[] other = Wire.request(Wire.shortAddress(0, 3), 13);
        int[] own = Wire.request(Wire.shortAddress(0, 0), 13);
        fed("a frame right behind another", 1, 1, Wire.join(other, own));
        int[] quiet = Wire.request(Wire.broadcast(0), 11, 1, 2, 3, 4, 5, 6);
        LoopDevice x = Wire.device();
        Wire.feed(x, Wire.join(quiet, own));
        counted("a frame right behind a broadcast", x, 2, 0);
        BENCH.due("answers: a frame right behind a broadcast", x.has(6), 1);
    }

    /** A sum or a count of 255 belongs to its frame: it is not the first byte of the next preamble. */
    private static void bytesOfAFrameAreNoPreamble() {
        int[] sum255 = Wire.request(Wire.shortAddress(0, 3), 2 ^ 131 ^ 255);
        BENCH.due("the sum", sum255[sum255.length - 1], 255);
        fed("two bytes 255 behind a sum of 255", 0, 1, Wire.join(sum255, Wire.summed(2, BODY)));
        int[] count255 = {255, 255, 255, 2, 128, 13, 255};
        fed("two bytes 255 behind a count of 255", 0, 0, Wire.join(count255, Wire.summed(2, BODY)));
        fed("three bytes 255 behind a count of 255", 1, 0, Wire.join(count255, Wire.summed(3, BODY)));
    }
}
