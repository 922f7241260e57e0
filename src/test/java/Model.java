import java.math.BigInteger;
import java.util.ArrayList;
import java.util.Arrays;
import java.util.List;
import java.util.TreeMap;

/**
 * The document's words written down a second time, in another way: bytes that go out are laid on the
 * ticks of a calendar, and the bytes that came are read from their first one again with every byte.
 */
final class Model {
    private static final List<Integer> SETTING = List.of(6, 18, 35, 108, 109);

    private final int[] longAddress;
    private int shortAddress = 0;
    private int[] tag = {32, 32, 32, 32, 32, 32};
    private final int[] variables = new int[4];
    private int unit = 0;
    private int lower = 0;
    private int upper = 10000;
    private final boolean[] changed = {true, true};
    private final boolean[] cold = {true, true};
    private boolean failed = false;
    private boolean burstOn = false;
    private int burstCommand = 1;
    private int answers = 0;
    private int bursts = 0;
    private int good = 0;
    private int notGood = 0;

    private int now = 0;
    /** The last tick in which a byte came or went out. */
    private int lastTraffic = -1;
    private final TreeMap<Integer, Integer> calendar = new TreeMap<>();
    private final List<Integer> came = new ArrayList<>();
    private final List<Integer> sentBytes = new ArrayList<>();
    private final List<Integer> sentTicks = new ArrayList<>();

    Model(int maker, int kind, int number) {
        longAddress = new int[] {Math.floorMod(maker, 64), Math.floorMod(kind, 256),
            Math.floorMod(number >> 16, 256), Math.floorMod(number >> 8, 256), Math.floorMod(number, 256)};
    }

    int octet(int b) {
        pass(Math.floorMod(b, 256));
        return sentBytes.size();
    }

    int octets(int w) {
        for (int b : Wire.four(w)) {
            pass(b);
        }
        return sentBytes.size();
    }

    int tick(int n) {
        if (n < 1 || n > 1000) {
            return -1;
        }
        for (int i = 0; i < n; i++) {
            pass(-1);
        }
        return sentBytes.size();
    }

    private boolean isThere(int i) {
        return i >= 0 && i < sentBytes.size() && i >= sentBytes.size() - 2000;
    }

    int sent(int i) {
        return isThere(i) ? sentBytes.get(i) : -1;
    }

    int when(int i) {
        return isThere(i) ? sentTicks.get(i) : -1;
    }

    long variable(int i, int v) {
        if (i < 0 || i > 3) {
            return -1;
        }
        long before = variables[i];
        variables[i] = v;
        return before;
    }

    int failure(boolean on) {
        boolean before = failed;
        failed = on;
        return before == on ? 0 : 1;
    }

    long has(int what) {
        long[] all = {shortAddress, unit, lower, upper, burstOn ? 1 : 0, burstCommand, answers, bursts, good, notGood};
        return what >= 0 && what < all.length ? all[what] : -1;
    }

    int tag(int i) {
        return i >= 0 && i < 6 ? tag[i] : -1;
    }

    int now() {
        return now;
    }

    int total() {
        return sentBytes.size();
    }

    private void pass(int b) {
        boolean free = calendar.isEmpty() || calendar.lastKey() < now;
        if (free && burstOn && now - lastTraffic > 8) {
            int master = bursts % 2;
            bursts++;
            int[] address = longAddress.clone();
            address[0] |= 64 | Wire.masterBit(master);
            lay(now, Wire.sending(129, address, burstCommand, 0, status(master), data(burstCommand, new int[0])));
            free = false;
        }
        if (calendar.containsKey(now)) {
            sentBytes.add(calendar.get(now));
            sentTicks.add(now);
            lastTraffic = now;
        }
        if (b >= 0) {
            lastTraffic = now;
        }
        if (free && b >= 0) {
            came.add(b);
            look();
        } else {
            came.clear();
        }
        now++;
    }

    private void lay(int tick, int[] bytes) {
        for (int i = 0; i < bytes.length; i++) {
            calendar.put(tick + i, bytes[i]);
        }
    }

    private int cameAt(int i) {
        return i < came.size() ? came.get(i) : -1;
    }

    private void look() {
        int mark = 0;
        while (cameAt(mark) == 255) {
            mark++;
        }
        if (mark == came.size()) {
            return;
        }
        if (mark < 3 || cameAt(mark) != 2 && cameAt(mark) != 130) {
            came.clear();
            return;
        }
        int command = mark + (cameAt(mark) == 2 ? 2 : 6);
        int count = cameAt(command + 1);
        if (count > 20) {
            came.clear();
            return;
        }
        int sum = command + 2 + count;
        if (count < 0 || came.size() <= sum) {
            return;
        }
        int[] frame = came.subList(mark, sum + 1).stream().mapToInt(Integer::intValue).toArray();
        came.clear();
        take(frame, command - mark);
    }

    /** A frame from its mark to its sum, and where its command stands. */
    private void take(int[] frame, int at) {
        int sum = 0;
        for (int b : frame) {
            sum ^= b;
        }
        int[] address = Arrays.copyOfRange(frame, 1, at);
        int command = frame[at];
        int[] data = Arrays.copyOfRange(frame, at + 2, frame.length - 1);
        int master = address[0] >= 128 ? 0 : 1;
        address[0] %= 64;
        boolean broadcast = command == 11 && Arrays.equals(address, new int[5]);
        boolean own = Arrays.equals(address, longAddress) || Arrays.equals(address, new int[] {shortAddress});
        if (sum != 0 || !own && !broadcast) {
            notGood++;
            return;
        }
        good++;
        int code = code(command, data);
        if (broadcast && code != 0) {
            return;
        }
        answers++;
        if (code == 0) {
            act(command, data, master);
        }
        int[] told = address.length == 1 ? new int[] {shortAddress} : longAddress.clone();
        told[0] |= Wire.masterBit(master) | (burstOn ? 64 : 0);
        int[] dataTold = code == 0 ? data(command, data) : new int[0];
        lay(now + 2, Wire.answer(told, command, code, status(master), dataTold));
        cold[master] = false;
    }

    private static int number(int[] data, int at) {
        return new BigInteger(new byte[] {(byte) data[at], (byte) data[at + 1],
            (byte) data[at + 2], (byte) data[at + 3]}).intValue();
    }

    private int code(int command, int[] data) {
        int[][] counts = {{0, 0}, {1, 0}, {2, 0}, {3, 0}, {6, 1}, {11, 6}, {13, 0}, {18, 6}, {35, 9}, {38, 0},
            {48, 0}, {108, 1}, {109, 1}};
        for (int[] row : counts) {
            if (row[0] == command) {
                return data.length == row[1] ? codeOfData(command, data) : 5;
            }
        }
        return 64;
    }

    private int codeOfData(int command, int[] data) {
        if (command == 6 && data[0] > 15 || command == 109 && data[0] > 1) {
            return 2;
        }
        if (command == 108 && (data[0] == 0 || data[0] > 3)) {
            return 2;
        }
        if (command == 11 && !Arrays.equals(data, tag)) {
            return 65;
        }
        if (command == 35) {
            int order = Integer.compare(number(data, 1), number(data, 5));
            return order == 0 ? 9 : order < 0 ? 11 : 0;
        }
        return 0;
    }

    private void act(int command, int[] data, int master) {
        if (SETTING.contains(command)) {
            Arrays.fill(changed, true);
        }
        switch (command) {
            case 6 -> shortAddress = data[0];
            case 18 -> tag = data;
            case 35 -> {
                unit = data[0];
                upper = number(data, 1);
                lower = number(data, 5);
            }
            case 38 -> changed[master] = false;
            case 108 -> burstCommand = data[0];
            case 109 -> burstOn = data[0] == 1;
            default -> { }
        }
    }

    private int[] data(int command, int[] asked) {
        int[] a = longAddress;
        switch (command) {
            case 0, 11: return new int[] {254, a[0], a[1], 5, a[2], a[3], a[4]};
            case 1: return Wire.join(new int[] {unit}, Wire.four(variables[0]));
            case 2: return Wire.four(level());
            case 3: return Wire.join(Wire.four(level()), Wire.four(variables[0]), Wire.four(variables[1]),
                    Wire.four(variables[2]), Wire.four(variables[3]));
            case 13: return tag;
            case 48: return new int[] {failed ? 1 : 0, answers % 256};
            default: return SETTING.contains(command) ? asked : new int[0];
        }
    }

    private int level() {
        BigInteger least = BigInteger.valueOf(lower);
        BigInteger level = BigInteger.valueOf(variables[0]).subtract(least).multiply(BigInteger.valueOf(16000))
                .divide(BigInteger.valueOf(upper).subtract(least)).add(BigInteger.valueOf(4000));
        return level.max(BigInteger.valueOf(3800)).min(BigInteger.valueOf(20500)).intValue();
    }

    private int status(int master) {
        boolean outside = variables[0] < lower || variables[0] > upper;
        return (failed ? 128 : 0) + (changed[master] ? 64 : 0) + (cold[master] ? 32 : 0) + (outside ? 8 : 0);
    }
}
