import java.util.Arrays;

/** Frames as the document words them, and a device to try them on. */
final class Wire {
    static final int MAKER = 5;
    static final int KIND = 7;
    static final int NUMBER = 0x010203;
    /** Longer than any answer with its gap. */
    static final int LONG_ENOUGH = 40;

    private Wire() {
    }

    static Device device() {
        return new Device(MAKER, KIND, NUMBER);
    }

    static int masterBit(int master) {
        return master == 0 ? 128 : 0;
    }

    static int[] shortAddress(int master, int address) {
        return new int[] {masterBit(master) | address};
    }

    static int[] longAddress(int master) {
        return new int[] {masterBit(master) | MAKER, KIND, 1, 2, 3};
    }

    static int[] broadcast(int master) {
        return new int[] {masterBit(master), 0, 0, 0, 0};
    }

    /** The address as the device tells it while BURST is on. */
    static int[] inBurst(int[] address) {
        int[] marked = address.clone();
        marked[0] |= 64;
        return marked;
    }

    static int[] join(int[]... rows) {
        int[] all = new int[0];
        for (int[] row : rows) {
            int at = all.length;
            all = Arrays.copyOf(all, at + row.length);
            System.arraycopy(row, 0, all, at, row.length);
        }
        return all;
    }

    static int[] row(int length, int b) {
        int[] row = new int[length];
        Arrays.fill(row, b);
        return row;
    }

    static int[] four(int v) {
        return new int[] {v >> 24 & 255, v >> 16 & 255, v >> 8 & 255, v & 255};
    }

    /** A preamble, the body, and the body's sum. */
    static int[] summed(int preamble, int[] body) {
        int sum = 0;
        for (int b : body) {
            sum ^= b;
        }
        return join(row(preamble, 255), body, new int[] {sum});
    }

    static int[] request(int[] address, int command, int... data) {
        int mark = address.length == 1 ? 2 : 130;
        return summed(3, join(new int[] {mark}, address, new int[] {command, data.length}, data));
    }

    static int[] sending(int mark, int[] address, int command, int code, int status, int... data) {
        int[] head = {command, data.length + 2, code, status};
        return summed(5, join(new int[] {mark}, address, head, data));
    }

    static int[] answer(int[] address, int command, int code, int status, int... data) {
        return sending(address.length == 1 ? 6 : 134, address, command, code, status, data);
    }

    static int[] burst(int master, int command, int status, int... data) {
        return sending(129, inBurst(longAddress(master)), command, 0, status, data);
    }

    static int feed(Device x, int... bytes) {
        int total = 0;
        for (int b : bytes) {
            total = x.octet(b);
        }
        return total;
    }

    static int[] sentBetween(Device x, int from, int to) {
        int[] bytes = new int[to - from];
        for (int i = 0; i < bytes.length; i++) {
            bytes[i] = x.sent(from + i);
        }
        return bytes;
    }

    /** Feeds a frame and lets the answer go out: the bytes that went out meanwhile. */
    static int[] ask(Device x, int[] request) {
        int before = feed(x, request);
        return sentBetween(x, before, x.tick(LONG_ENOUGH));
    }

    /** As ask, but not so long that a burst begins behind the answer. */
    static int[] askBriefly(Device x, int[] request) {
        int before = feed(x, request);
        x.tick(2);
        return sentBetween(x, before, passQuiet(x, 1));
    }

    /** Lets ticks pass until so many in a row sent nothing: how many bytes went out in all. */
    static int passQuiet(Device x, int wanted) {
        int total = x.tick(1);
        int quiet = 0;
        for (int i = 0; i < 1000 && quiet < wanted; i++) {
            int after = x.tick(1);
            quiet = after == total ? quiet + 1 : 0;
            total = after;
        }
        return total;
    }

    /** A device with COLD cleared for both masters: both have had an answer. */
    static Device warmDevice() {
        Device x = device();
        ask(x, request(longAddress(0), 13));
        ask(x, request(longAddress(1), 13));
        return x;
    }

    /** A warm device with CHANGED cleared too: its status is 0. */
    static Device calmDevice() {
        Device x = device();
        ask(x, request(longAddress(0), 38));
        ask(x, request(longAddress(1), 38));
        return x;
    }

    /** Turns BURST on and lets the answer go out to its last byte: how many bytes went out in all. */
    static int turnBurstOn(Device x) {
        int before = feed(x, request(longAddress(0), 109, 1));
        int length = answer(longAddress(0), 109, 0, 0, 1).length;
        int after = x.tick(1 + length);
        if (after != before + length) {
            throw new IllegalStateException("109 was not answered as it is due");
        }
        return after;
    }
}
