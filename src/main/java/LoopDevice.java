/**
 * A device at a loop with two masters: it finds frames among the bytes that come, answers them,
 * and sends bursts of its own, tick by tick.
 *
 * <p>All rows are made once, with the object: no call makes anything new.
 */
public final class LoopDevice {
    public static final int NONE = -1;

    private static final int NO_BYTE = -1;
    private static final int LONGEST_PASS = 1000;
    private static final int QUIET_BEFORE_BURST = 8;

    private static final int PREAMBLE_BYTE = 255;
    private static final int SHORT_ANSWER_MARK = 6;
    private static final int LONG_ANSWER_MARK = 134;
    private static final int BURST_MARK = 129;

    private static final int MASTER_BIT = 128;
    private static final int BURST_BIT = 64;
    private static final int STATION_BITS = 63;
    private static final int BOTH_MASTERS = 3;

    private static final int TAG_LENGTH = 6;
    private static final int VARIABLES = 4;

    private static final int READ_IDENTITY = 0;
    private static final int READ_VARIABLE = 1;
    private static final int READ_LEVEL = 2;
    private static final int READ_ALL = 3;
    private static final int SET_SHORT_ADDRESS = 6;
    private static final int FIND_TAG = 11;
    private static final int READ_TAG = 13;
    private static final int SET_TAG = 18;
    private static final int SET_ENDS = 35;
    private static final int CLEAR_CHANGED = 38;
    private static final int READ_HEALTH = 48;
    private static final int SET_BURST_COMMAND = 108;
    private static final int SET_BURST = 109;

    private static final int FINE = 0;
    private static final int WRONG_CHOICE = 2;
    private static final int WRONG_COUNT = 5;
    private static final int SAME_ENDS = 9;
    private static final int TURNED_ENDS = 11;
    private static final int UNKNOWN_COMMAND = 64;
    private static final int OTHER_TAG = 65;

    private final Holdings holdings;
    private final FrameReader reader;
    private final FrameWriter writer;
    private final SentBytes gone;
    private int ticks;
    private int quietTicks;
    private int answers;
    private int bursts;
    private int goodFrames;
    private int otherFrames;
    private int burstMaster;

    public LoopDevice(int maker, int kind, int number) {
        holdings = new Holdings(maker & STATION_BITS, kind & 255, number & 0xFFFFFF);
        reader = new FrameReader();
        writer = new FrameWriter();
        gone = new SentBytes();
    }

    public int octet(int b) {
        passTick(b & 255);
        return gone.total;
    }

    public int octets(int w) {
        for (int shift = 24; shift >= 0; shift -= 8) {
            passTick((w >>> shift) & 255);
        }
        return gone.total;
    }

    public int tick(int n) {
        if (n < 1 || n > LONGEST_PASS) {
            return NONE;
        }
        for (int i = 0; i < n; i++) {
            passTick(NO_BYTE);
        }
        return gone.total;
    }

    public int sent(int i) {
        return gone.byteAt(i);
    }

    public int when(int i) {
        return gone.tickAt(i);
    }

    public long variable(int i, int v) {
        if (i < 0 || i >= VARIABLES) {
            return NONE;
        }
        long before = holdings.variableAt(i);
        holdings.setVariable(i, v);
        return before;
    }

    public int failure(boolean on) {
        if (holdings.failed == on) {
            return 0;
        }
        holdings.failed = on;
        return 1;
    }

    public long has(int what) {
        switch (what) {
            case 0: return holdings.shortAddress;
            case 1: return holdings.unit;
            case 2: return holdings.lower;
            case 3: return holdings.upper;
            case 4: return holdings.burstOn ? 1 : 0;
            case 5: return holdings.burstCommand;
            case 6: return answers;
            case 7: return bursts;
            case 8: return goodFrames;
            case 9: return otherFrames;
            default: return NONE;
        }
    }

    public int tag(int i) {
        return holdings.tagByte(i);
    }

    public int now() {
        return ticks;
    }

    private void passTick(int b) {
        if (burstIsDue()) {
            beginBurst();
        }
        // Asked before a byte goes: in the tick of its last byte the device is still sending.
        boolean busy = writer.isBusy();
        int going = writer.takeNext();
        if (going != NO_BYTE) {
            gone.add(going, ticks);
        }
        if (busy || b == NO_BYTE) {
            reader.beginAnew();
        } else if (reader.take(b) && countFrame()) {
            answerFrame();
        }
        quietTicks = b == NO_BYTE && going == NO_BYTE ? quietTicks + 1 : 0;
        ticks++;
    }

    /** A quiet tick ends every frame that had begun, so behind eight of them none is open. */
    private boolean burstIsDue() {
        return holdings.burstOn && quietTicks >= QUIET_BEFORE_BURST && !writer.isBusy();
    }

    private void beginBurst() {
        bursts++;
        compose(BURST_MARK, burstMaster, holdings.burstCommand, FINE);
        burstMaster = 1 - burstMaster;
    }

    /** Counts the frame that has ended: whether it is good. */
    private boolean countFrame() {
        boolean good = reader.sumIsRight && isForDevice();
        if (good) {
            goodFrames++;
        } else {
            otherFrames++;
        }
        return good;
    }

    private boolean isForDevice() {
        if (!reader.isLong) {
            return reader.station() == holdings.shortAddress;
        }
        return isBroadcast() || holdings.hasLongAddress(reader.station(), reader.kind(), reader.number());
    }

    private boolean isBroadcast() {
        return reader.isLong && reader.command == FIND_TAG
                && reader.station() == 0 && reader.kind() == 0 && reader.number() == 0;
    }

    private void answerFrame() {
        int code = codeOfFrame();
        // Every device at the loop hears a broadcast: only the one that it seeks may speak.
        if (code != FINE && isBroadcast()) {
            return;
        }
        answers++;
        int master = reader.master();
        if (code == FINE) {
            carryOut(reader.command, master);
        }
        compose(reader.isLong ? LONG_ANSWER_MARK : SHORT_ANSWER_MARK, master, reader.command, code);
        writer.waitOneTick();
        holdings.cold &= ~(1 << master);
    }

    private static int countOfCommand(int command) {
        switch (command) {
            case READ_IDENTITY:
            case READ_VARIABLE:
            case READ_LEVEL:
            case READ_ALL:
            case READ_TAG:
            case CLEAR_CHANGED:
            case READ_HEALTH:
                return 0;
            case SET_SHORT_ADDRESS:
            case SET_BURST_COMMAND:
            case SET_BURST:
                return 1;
            case FIND_TAG:
            case SET_TAG:
                return TAG_LENGTH;
            case SET_ENDS:
                return 9;
            default:
                return NONE;
        }
    }

    private int codeOfFrame() {
        int count = countOfCommand(reader.command);
        if (count == NONE) {
            return UNKNOWN_COMMAND;
        }
        if (reader.count != count) {
            return WRONG_COUNT;
        }
        int first = reader.dataAt(0);
        switch (reader.command) {
            case SET_SHORT_ADDRESS: return first > 15 ? WRONG_CHOICE : FINE;
            case FIND_TAG: return tagIsInFrame() ? FINE : OTHER_TAG;
            case SET_ENDS: return codeOfEnds(reader.fourAt(1), reader.fourAt(5));
            case SET_BURST_COMMAND: return first < 1 || first > 3 ? WRONG_CHOICE : FINE;
            case SET_BURST: return first > 1 ? WRONG_CHOICE : FINE;
            default: return FINE;
        }
    }

    private static int codeOfEnds(int upper, int lower) {
        if (upper == lower) {
            return SAME_ENDS;
        }
        return upper < lower ? TURNED_ENDS : FINE;
    }

    private boolean tagIsInFrame() {
        for (int i = 0; i < TAG_LENGTH; i++) {
            if (reader.dataAt(i) != holdings.tagByte(i)) {
                return false;
            }
        }
        return true;
    }

    private void carryOut(int command, int master) {
        switch (command) {
            case SET_SHORT_ADDRESS:
                holdings.shortAddress = reader.dataAt(0);
                break;
            case SET_TAG:
                for (int i = 0; i < TAG_LENGTH; i++) {
                    holdings.setTagByte(i, reader.dataAt(i));
                }
                break;
            case SET_ENDS:
                holdings.unit = reader.dataAt(0);
                holdings.upper = reader.fourAt(1);
                holdings.lower = reader.fourAt(5);
                break;
            case SET_BURST_COMMAND:
                holdings.burstCommand = reader.dataAt(0);
                break;
            case SET_BURST:
                holdings.burstOn = reader.dataAt(0) == 1;
                break;
            case CLEAR_CHANGED:
                holdings.changed &= ~(1 << master);
                break;
            default:
                break;
        }
        if (setsSomething(command)) {
            holdings.changed = BOTH_MASTERS;
        }
    }

    private static boolean setsSomething(int command) {
        return command == SET_SHORT_ADDRESS || command == SET_TAG || command == SET_ENDS
                || command == SET_BURST_COMMAND || command == SET_BURST;
    }

    private void compose(int mark, int master, int command, int code) {
        writer.begin(mark);
        addAddress(mark != SHORT_ANSWER_MARK, master);
        writer.add(command);
        writer.beginCount();
        writer.add(code);
        writer.add(holdings.statusFor(master));
        if (code == FINE) {
            addData(command);
        }
        writer.end();
    }

    private void addAddress(boolean isLong, int master) {
        int bits = (master == 0 ? MASTER_BIT : 0) | (holdings.burstOn ? BURST_BIT : 0);
        if (isLong) {
            writer.add(bits | holdings.maker);
            writer.add(holdings.kind);
            addNumber();
        } else {
            writer.add(bits | holdings.shortAddress);
        }
    }

    private void addData(int command) {
        switch (command) {
            case READ_IDENTITY:
            case FIND_TAG:
                addIdentity();
                break;
            case READ_VARIABLE:
                writer.add(holdings.unit);
                writer.addFour(holdings.variableAt(0));
                break;
            case READ_LEVEL:
                writer.addFour(holdings.level());
                break;
            case READ_ALL:
                writer.addFour(holdings.level());
                for (int i = 0; i < VARIABLES; i++) {
                    writer.addFour(holdings.variableAt(i));
                }
                break;
            case READ_TAG:
                for (int i = 0; i < TAG_LENGTH; i++) {
                    writer.add(holdings.tagByte(i));
                }
                break;
            case READ_HEALTH:
                writer.add(holdings.failed ? 1 : 0);
                writer.add(answers);
                break;
            default:
                addEcho(command);
                break;
        }
    }

    private void addIdentity() {
        writer.add(254);
        writer.add(holdings.maker);
        writer.add(holdings.kind);
        writer.add(5);
        addNumber();
    }

    private void addNumber() {
        writer.add(holdings.number >>> 16);
        writer.add(holdings.number >>> 8);
        writer.add(holdings.number);
    }

    private void addEcho(int command) {
        if (!setsSomething(command)) {
            return;
        }
        for (int i = 0; i < reader.count; i++) {
            writer.add(reader.dataAt(i));
        }
    }

    /** What the device has. CHANGED and COLD are held as bits: bit 0 is master 0's, bit 1 master 1's. */
    private static final class Holdings {
        private static final long LEVEL_SPAN = 16000L;
        private static final long LEVEL_BASE = 4000L;
        private static final long LEAST_LEVEL = 3800L;
        private static final long MOST_LEVEL = 20500L;

        final int maker;
        final int kind;
        final int number;
        int shortAddress;
        int unit;
        int lower;
        int upper;
        int changed;
        int cold;
        boolean failed;
        boolean burstOn;
        int burstCommand;
        private final int[] tagBytes;
        private final int[] variables;

        Holdings(int maker, int kind, int number) {
            this.maker = maker;
            this.kind = kind;
            this.number = number;
            upper = 10000;
            changed = BOTH_MASTERS;
            cold = BOTH_MASTERS;
            burstCommand = READ_VARIABLE;
            tagBytes = new int[TAG_LENGTH];
            for (int i = 0; i < TAG_LENGTH; i++) {
                tagBytes[i] = 32;
            }
            variables = new int[VARIABLES];
        }

        boolean hasLongAddress(int otherMaker, int otherKind, int otherNumber) {
            return otherMaker == maker && otherKind == kind && otherNumber == number;
        }

        int tagByte(int i) {
            return i >= 0 && i < tagBytes.length ? tagBytes[i] : NONE;
        }

        void setTagByte(int i, int b) {
            if (i >= 0 && i < tagBytes.length) {
                tagBytes[i] = b;
            }
        }

        int variableAt(int i) {
            return i >= 0 && i < variables.length ? variables[i] : 0;
        }

        void setVariable(int i, int v) {
            if (i >= 0 && i < variables.length) {
                variables[i] = v;
            }
        }

        int statusFor(int master) {
            int first = variableAt(0);
            int status = failed ? 128 : 0;
            status |= ((changed >> master) & 1) != 0 ? 64 : 0;
            status |= ((cold >> master) & 1) != 0 ? 32 : 0;
            status |= first < lower || first > upper ? 8 : 0;
            return status;
        }

        int level() {
            long span = (long) upper - lower;
            // Command 35 keeps the upper end above the lower one; a divisor is tested all the same.
            if (span <= 0L) {
                return (int) LEAST_LEVEL;
            }
            long level = ((long) variableAt(0) - lower) * LEVEL_SPAN / span + LEVEL_BASE;
            return (int) Math.max(LEAST_LEVEL, Math.min(MOST_LEVEL, level));
        }
    }

    /** Looks at the bytes that come. What an ended frame held stays readable until the next mark. */
    private static final class FrameReader {
        private static final int LEAST_PREAMBLE = 3;
        private static final int SHORT_MARK = 2;
        private static final int LONG_MARK = 130;
        private static final int LONG_LENGTH = 5;
        private static final int MOST_DATA = 20;

        private static final int AT_PREAMBLE = 0;
        private static final int AT_ADDRESS = 1;
        private static final int AT_COMMAND = 2;
        private static final int AT_COUNT = 3;
        private static final int AT_DATA = 4;
        private static final int AT_SUM = 5;

        boolean isLong;
        int command;
        int count;
        boolean sumIsRight;
        private final int[] address;
        private final int[] data;
        private int place;
        private int preamble;
        private int taken;
        private int sum;

        FrameReader() {
            address = new int[LONG_LENGTH];
            data = new int[MOST_DATA];
        }

        void beginAnew() {
            place = AT_PREAMBLE;
            preamble = 0;
        }

        /** Whether the frame has ended with this byte. */
        boolean take(int b) {
            if (place == AT_SUM) {
                sumIsRight = b == sum;
                beginAnew();
                return true;
            }
            // Before a mark this is worth nothing: the mark sets the sum anew.
            sum ^= b;
            switch (place) {
                case AT_ADDRESS:
                    takeAddress(b);
                    break;
                case AT_COMMAND:
                    command = b;
                    place = AT_COUNT;
                    break;
                case AT_COUNT:
                    takeCount(b);
                    break;
                case AT_DATA:
                    takeData(b);
                    break;
                default:
                    takePreamble(b);
                    break;
            }
            return false;
        }

        private void takePreamble(int b) {
            if (b == PREAMBLE_BYTE) {
                preamble = Math.min(preamble + 1, LEAST_PREAMBLE);
                return;
            }
            boolean enough = preamble >= LEAST_PREAMBLE;
            beginAnew();
            if (enough && (b == SHORT_MARK || b == LONG_MARK)) {
                isLong = b == LONG_MARK;
                sum = b;
                taken = 0;
                place = AT_ADDRESS;
            }
        }

        private void takeAddress(int b) {
            if (taken >= 0 && taken < address.length) {
                address[taken] = b;
            }
            taken++;
            if (taken >= (isLong ? LONG_LENGTH : 1)) {
                place = AT_COMMAND;
            }
        }

        private void takeCount(int b) {
            if (b > MOST_DATA) {
                beginAnew();
                return;
            }
            count = b;
            taken = 0;
            place = count == 0 ? AT_SUM : AT_DATA;
        }

        private void takeData(int b) {
            if (taken >= 0 && taken < data.length) {
                data[taken] = b;
            }
            taken++;
            if (taken >= count) {
                place = AT_SUM;
            }
        }

        int master() {
            return (addressAt(0) & MASTER_BIT) != 0 ? 0 : 1;
        }

        /** The short address, or the maker: the bits of the first byte that tell which device is meant. */
        int station() {
            return addressAt(0) & STATION_BITS;
        }

        int kind() {
            return addressAt(1);
        }

        int number() {
            return addressAt(2) << 16 | addressAt(3) << 8 | addressAt(4);
        }

        private int addressAt(int i) {
            return i >= 0 && i < address.length ? address[i] : 0;
        }

        int dataAt(int i) {
            return i >= 0 && i < count && i < data.length ? data[i] : 0;
        }

        int fourAt(int i) {
            return dataAt(i) << 24 | dataAt(i + 1) << 16 | dataAt(i + 2) << 8 | dataAt(i + 3);
        }
    }

    /** The frame that is to be sent, or being sent. */
    private static final class FrameWriter {
        private static final int PREAMBLE_LENGTH = 5;
        /** Preamble, mark, long address, command, count, status, the data of command 3, sum. */
        private static final int LONGEST = 36;

        private final int[] bytes;
        private int length;
        private int next;
        private int countPlace;
        private boolean waits;

        FrameWriter() {
            bytes = new int[LONGEST];
        }

        boolean isBusy() {
            return next < length;
        }

        void begin(int mark) {
            length = 0;
            next = 0;
            waits = false;
            for (int i = 0; i < PREAMBLE_LENGTH; i++) {
                add(PREAMBLE_BYTE);
            }
            add(mark);
        }

        /** Adds the lowest eight bits, so that larger numbers are added by shifts alone. */
        void add(int b) {
            if (length >= 0 && length < bytes.length) {
                bytes[length] = b & 255;
                length++;
            }
        }

        void addFour(int v) {
            add(v >>> 24);
            add(v >>> 16);
            add(v >>> 8);
            add(v);
        }

        /** The count is known only when all is written: its place is kept free until then. */
        void beginCount() {
            countPlace = length;
            add(0);
        }

        void end() {
            if (countPlace >= 0 && countPlace < bytes.length) {
                bytes[countPlace] = length - countPlace - 1;
            }
            int sum = 0;
            for (int i = PREAMBLE_LENGTH; i < length && i < bytes.length; i++) {
                sum ^= bytes[i];
            }
            add(sum);
        }

        void waitOneTick() {
            waits = true;
        }

        /** The byte that goes out in this tick, or NO_BYTE. */
        int takeNext() {
            if (waits) {
                waits = false;
                return NO_BYTE;
            }
            if (next < 0 || next >= length || next >= bytes.length) {
                return NO_BYTE;
            }
            int b = bytes[next];
            next++;
            return b;
        }
    }

    /** The latest bytes that went out, each with its tick, in rows that are used again from their start. */
    private static final class SentBytes {
        private static final int KEPT = 2000;

        int total;
        private final int[] bytes;
        private final int[] ticksOfBytes;

        SentBytes() {
            bytes = new int[KEPT];
            ticksOfBytes = new int[KEPT];
        }

        void add(int b, int tickOfByte) {
            int place = total % KEPT;
            if (place >= 0 && place < bytes.length && place < ticksOfBytes.length) {
                bytes[place] = b;
                ticksOfBytes[place] = tickOfByte;
                total++;
            }
        }

        int byteAt(int i) {
            int place = placeOf(i);
            return place >= 0 && place < bytes.length ? bytes[place] : NONE;
        }

        int tickAt(int i) {
            int place = placeOf(i);
            return place >= 0 && place < ticksOfBytes.length ? ticksOfBytes[place] : NONE;
        }

        private int placeOf(int i) {
            return i < 0 || i >= total || i < total - KEPT ? NONE : i % KEPT;
        }
    }
}
