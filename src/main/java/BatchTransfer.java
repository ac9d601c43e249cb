import java.util.NoSuchElementException;

/** Files go over a line that damages and loses, in blocks with checks, until the other side has just these files. */
public final class BatchTransfer {
    public static final int NONE = -1;

    private static final int TAPE_LIMIT = 3100;
    private static final int FED_BYTES = 20;

    private static final int FILE_LIMIT = 8;
    private static final int NAME_LIMIT = 12;
    private static final int SIZE_LIMIT = 3000;
    // The blocks of the largest file; no block that is sent is kept twice, so eight times this holds all that comes.
    private static final int PADDED_LIMIT = 3072;

    private static final int MODE_SUMS = 0;
    private static final int MODE_LARGE = 2;
    private static final int MODE_BATCH = 3;

    private static final int SMALL_MARK = 1;
    private static final int LARGE_MARK = 2;
    private static final int SMALL_DATA = 128;
    private static final int LARGE_DATA = 1024;
    private static final int LARGE_ABOVE = 896;
    private static final int DATA_AT = 3;
    private static final int LINE_LIMIT = DATA_AT + LARGE_DATA + 2;

    private static final int EOT = 4;
    private static final int ACK = 6;
    private static final int NAK = 21;
    private static final int CAN = 24;
    private static final int FILLER = 26;
    private static final int ASK_FOR_CRC = 67;
    private static final int NOT_ASKED_YET = 0;

    private static final int AT_WORK = 0;
    private static final int DONE = 1;
    private static final int FAILED = 2;
    private static final int MISSES_BORNE = 10;

    private static final int DIGITS_READ = 6;
    private static final int HIGHEST_POWER = 1000;

    private final Tape tape = new Tape();
    private final Wire wire = new Wire();
    private final Sender sender = new Sender();
    private final Receiver receiver = new Receiver();
    private boolean everBegun;
    private boolean senderIsNext;
    private boolean spoilTold;
    private int spoilAt;
    private int spoilMask;

    public BatchTransfer() {
    }

    public boolean feed(int a, int b, int c, int d, int e) {
        if (tape.length + FED_BYTES > TAPE_LIMIT) {
            return false;
        }
        tape.append(a);
        tape.append(b);
        tape.append(c);
        tape.append(d);
        tape.append(e);
        return true;
    }

    public boolean end(int n) {
        if (n < 0 || n > tape.length) {
            return false;
        }
        tape.length = n;
        return true;
    }

    public int file() {
        int nameLength = tape.nameLength();
        int dataAt = nameLength + 1;
        int dataLength = tape.length - dataAt;
        if (nameLength == NONE || dataLength > SIZE_LIMIT || !mayAddFile()) {
            return NONE;
        }
        Shelf files = sender.files;
        files.open();
        files.nameLast(tape.bytes, 0, nameLength);
        files.extendLast(tape.bytes, dataAt, dataLength);
        tape.length = 0;
        return files.count - 1;
    }

    public int made(int n, int seed) {
        if (n < 0 || n > SIZE_LIMIT || !mayAddFile()) {
            return NONE;
        }
        Shelf files = sender.files;
        files.open();
        files.nameLastByLetter('f');
        for (int k = 0; k < n; k++) {
            files.extendLastByOne(seed + 5 * k);
        }
        return files.count - 1;
    }

    public boolean clear() {
        if (isOn()) {
            return false;
        }
        sender.files.count = 0;
        return true;
    }

    public boolean begin(int mode) {
        if (sender.files.count == 0 || mode < MODE_SUMS || mode > MODE_BATCH) {
            return false;
        }
        sender.prepare(mode);
        receiver.prepare(mode);
        wire.putByte(askOf(mode));
        senderIsNext = true;
        everBegun = true;
        return true;
    }

    public void spoil(int at, int mask) {
        spoilTold = true;
        spoilAt = at;
        spoilMask = mask & 255;
    }

    public int step() {
        if (!isOn()) {
            return NONE;
        }
        spoilWire();
        if (senderIsNext) {
            sender.hear(wire);
        } else {
            receiver.hear(wire);
        }
        senderIsNext = !senderIsNext;
        return isOn() ? wire.get(0) : NONE;
    }

    public int line() {
        return wire.length;
    }

    public int lineAt(int i) throws NoSuchElementException {
        if (i < 0 || i >= wire.length) {
            throw new NoSuchElementException();
        }
        return wire.get(i);
    }

    public int state(int side) {
        if (!everBegun) {
            return NONE;
        }
        switch (side) {
            case 0:
                return sender.outcome;
            case 1:
                return receiver.outcome;
            default:
                return NONE;
        }
    }

    public int received() {
        return receiver.arrived.count;
    }

    public int size(int f) {
        return receiver.arrived.has(f) ? receiver.arrived.sizes[f] : NONE;
    }

    public int byteAt(int f, int i) throws NoSuchElementException {
        Shelf arrived = receiver.arrived;
        if (!arrived.has(f) || i < 0 || i >= arrived.sizes[f]) {
            throw new NoSuchElementException();
        }
        return arrived.data[arrived.starts[f] + i] & 255;
    }

    public int nameAt(int f, int i) {
        Shelf arrived = receiver.arrived;
        if (!arrived.has(f) || i < 0 || i >= arrived.nameLengths[f]) {
            return NONE;
        }
        return arrived.names[f * NAME_LIMIT + i] & 255;
    }

    // A side that puts nothing on the line ends the session, so an empty line and no session are the same.
    private boolean isOn() {
        return wire.length > 0;
    }

    private boolean mayAddFile() {
        return sender.files.count < FILE_LIMIT && !isOn();
    }

    private void spoilWire() {
        if (!spoilTold) {
            return;
        }
        spoilTold = false;
        if (spoilMask == 0) {
            wire.empty();
        } else {
            wire.damage(spoilAt, spoilMask);
        }
    }

    private static int askOf(int mode) {
        return mode == MODE_SUMS ? NAK : ASK_FOR_CRC;
    }

    /** The bytes that are fed, before they become a file. */
    private static final class Tape {
        final byte[] bytes = new byte[TAPE_LIMIT];
        int length;

        void append(int number) {
            for (int shift = 24; shift >= 0 && length < TAPE_LIMIT; shift -= 8) {
                bytes[length] = (byte) (number >> shift);
                length++;
            }
        }

        /** How many bytes stand before the first 0; NONE when they are no name. */
        int nameLength() {
            for (int i = 0; i < length && i <= NAME_LIMIT; i++) {
                if (bytes[i] == 0) {
                    return i == 0 ? NONE : i;
                }
            }
            return NONE;
        }
    }

    /** Files one behind the other in rows that are made once; only the last one grows or shrinks. */
    private static final class Shelf {
        final byte[] names = new byte[FILE_LIMIT * NAME_LIMIT];
        final int[] nameLengths = new int[FILE_LIMIT];
        final byte[] data;
        final int[] starts = new int[FILE_LIMIT];
        final int[] sizes = new int[FILE_LIMIT];
        int count;

        Shelf(int capacity) {
            data = new byte[capacity];
        }

        boolean has(int f) {
            return f >= 0 && f < count;
        }

        void open() {
            if (count >= FILE_LIMIT) {
                return;
            }
            starts[count] = count == 0 ? 0 : starts[count - 1] + sizes[count - 1];
            sizes[count] = 0;
            nameLengths[count] = 0;
            count++;
        }

        void nameLast(byte[] from, int at, int n) {
            int last = count - 1;
            if (last >= 0 && n <= NAME_LIMIT) {
                System.arraycopy(from, at, names, last * NAME_LIMIT, n);
                nameLengths[last] = n;
            }
        }

        void nameLastByLetter(char letter) {
            int last = count - 1;
            if (last >= 0) {
                names[last * NAME_LIMIT] = (byte) letter;
                nameLengths[last] = 1;
            }
        }

        void extendLast(byte[] from, int at, int n) {
            int last = count - 1;
            if (last >= 0 && starts[last] + sizes[last] + n <= data.length) {
                System.arraycopy(from, at, data, starts[last] + sizes[last], n);
                sizes[last] += n;
            }
        }

        void extendLastByOne(int value) {
            int last = count - 1;
            if (last >= 0 && starts[last] + sizes[last] < data.length) {
                data[starts[last] + sizes[last]] = (byte) value;
                sizes[last]++;
            }
        }

        void cutLast(int most) {
            int last = count - 1;
            if (last >= 0 && sizes[last] > most) {
                sizes[last] = most;
            }
        }
    }

    /** What the line carries: one transmission; no bytes when it was lost or when nothing was put there. */
    private static final class Wire {
        final byte[] bytes = new byte[LINE_LIMIT];
        int length;

        int get(int i) {
            return bytes[i] & 255;
        }

        void empty() {
            length = 0;
        }

        void putByte(int value) {
            bytes[0] = (byte) value;
            length = 1;
        }

        boolean isByte(int value) {
            return length == 1 && get(0) == value;
        }

        void damage(int at, int mask) {
            if (length > 0) {
                bytes[Math.floorMod(at, length)] ^= (byte) mask;
            }
        }

        void openBlock(int number, int dataLength, int filler) {
            bytes[0] = (byte) (dataLength == LARGE_DATA ? LARGE_MARK : SMALL_MARK);
            bytes[1] = (byte) number;
            bytes[2] = (byte) (255 - number);
            length = DATA_AT + dataLength;
            for (int i = DATA_AT; i < length; i++) {
                bytes[i] = (byte) filler;
            }
        }

        void sealBlock(int mode) {
            if (mode == MODE_SUMS) {
                bytes[length] = (byte) sum(length);
                length++;
            } else {
                int crc = crc(length);
                bytes[length] = (byte) (crc >> 8);
                bytes[length + 1] = (byte) crc;
                length += 2;
            }
        }

        /** How many bytes of data a block with this first byte has; 0 when no block begins so. */
        int dataLength() {
            switch (get(0)) {
                case SMALL_MARK:
                    return SMALL_DATA;
                case LARGE_MARK:
                    return LARGE_DATA;
                default:
                    return 0;
            }
        }

        boolean isRightBlock(int mode) {
            int checkAt = DATA_AT + dataLength();
            int checkLength = mode == MODE_SUMS ? 1 : 2;
            if (checkAt == DATA_AT || length != checkAt + checkLength || get(1) + get(2) != 255) {
                return false;
            }
            if (mode == MODE_SUMS) {
                return get(checkAt) == sum(checkAt);
            }
            return (get(checkAt) << 8 | get(checkAt + 1)) == crc(checkAt);
        }

        private int sum(int dataEnd) {
            int sum = 0;
            for (int i = DATA_AT; i < dataEnd; i++) {
                sum += bytes[i];
            }
            return sum & 255;
        }

        // Eight bits at once: the polynomial has so few terms that what one byte does to all bits
        // can be said by shifts, which is far quicker than bit by bit and needs no table.
        private int crc(int dataEnd) {
            int crc = 0;
            for (int i = DATA_AT; i < dataEnd; i++) {
                int top = crc >> 8 ^ bytes[i] & 255;
                top ^= top >> 4;
                crc = (crc << 8 ^ top << 12 ^ top << 5 ^ top) & 0xFFFF;
            }
            return crc;
        }
    }

    /** What sender and receiver have in common: how they end, and how many misses they bear. */
    private abstract static class Side {
        int mode;
        int outcome;
        int misses;

        abstract void prepare(int newMode);

        /** Puts on the line what answers the transmission there, which is neither CAN nor for a side that has ended. */
        abstract void answer(Wire wire);

        final void hear(Wire wire) {
            if (outcome != AT_WORK) {
                wire.empty();
            } else if (wire.isByte(CAN)) {
                outcome = FAILED;
                wire.empty();
            } else {
                answer(wire);
            }
        }

        final void startWork(int newMode) {
            mode = newMode;
            outcome = AT_WORK;
            misses = 0;
        }

        /** Counts a miss; false when it was one too many, and the side has given up. */
        final boolean bearsMiss(Wire wire) {
            misses++;
            if (misses <= MISSES_BORNE) {
                return true;
            }
            giveUp(wire);
            return false;
        }

        final void giveUp(Wire wire) {
            outcome = FAILED;
            wire.putByte(CAN);
        }
    }

    /** The kinds of units that the sender sends. */
    private enum Unit { HEAD, BLOCK, END }

    private static final class Sender extends Side {
        final Shelf files = new Shelf(FILE_LIMIT * SIZE_LIMIT);
        private boolean asked;
        private Unit unit = Unit.HEAD;
        private int current;
        private int number;
        private int offset;
        private int left;

        void prepare(int newMode) {
            startWork(newMode);
            asked = false;
            current = 0;
            if (newMode == MODE_BATCH) {
                unit = Unit.HEAD;
            } else {
                goIntoFile();
            }
        }

        void answer(Wire wire) {
            if (!asked && wire.isByte(askOf(mode))) {
                asked = true;
                putUnit(wire);
            } else if (asked && wire.isByte(ACK)) {
                misses = 0;
                goToNextUnit();
                putUnit(wire);
            } else if (bearsMiss(wire)) {
                if (asked) {
                    putUnit(wire);
                } else {
                    wire.putByte(NOT_ASKED_YET);
                }
            }
        }

        private void goToNextUnit() {
            if (unit == Unit.HEAD) {
                goIntoFile();
            } else if (unit == Unit.BLOCK) {
                goBehindBlock();
            } else {
                goBehindFile();
            }
        }

        private void goIntoFile() {
            if (!files.has(current)) {
                outcome = DONE;
                return;
            }
            number = 1;
            offset = files.starts[current];
            left = files.sizes[current];
            unit = left > 0 ? Unit.BLOCK : Unit.END;
        }

        private void goBehindBlock() {
            int sent = Math.min(blockLength(), left);
            number++;
            offset += sent;
            left -= sent;
            unit = left > 0 ? Unit.BLOCK : Unit.END;
        }

        private void goBehindFile() {
            if (mode == MODE_BATCH) {
                current++;
                unit = Unit.HEAD;
            } else {
                outcome = DONE;
            }
        }

        private void putUnit(Wire wire) {
            if (outcome == DONE) {
                wire.empty();
            } else if (unit == Unit.HEAD) {
                putHead(wire);
            } else if (unit == Unit.BLOCK) {
                putBlock(wire);
            } else {
                wire.putByte(EOT);
            }
        }

        private void putHead(Wire wire) {
            wire.openBlock(0, SMALL_DATA, 0);
            if (files.has(current)) {
                int nameLength = files.nameLengths[current];
                System.arraycopy(files.names, current * NAME_LIMIT, wire.bytes, DATA_AT, nameLength);
                putDigits(wire, DATA_AT + nameLength + 1, files.sizes[current]);
            }
            wire.sealBlock(mode);
        }

        private static void putDigits(Wire wire, int at, int value) {
            int next = at;
            for (int power = HIGHEST_POWER; power >= 1; power /= 10) {
                if (value >= power || power == 1) {
                    wire.bytes[next] = (byte) ('0' + value / power % 10);
                    next++;
                }
            }
        }

        private void putBlock(Wire wire) {
            int dataLength = blockLength();
            wire.openBlock(number, dataLength, FILLER);
            System.arraycopy(files.data, offset, wire.bytes, DATA_AT, Math.min(dataLength, left));
            wire.sealBlock(mode);
        }

        private int blockLength() {
            return mode >= MODE_LARGE && left > LARGE_ABOVE ? LARGE_DATA : SMALL_DATA;
        }
    }

    private static final class Receiver extends Side {
        final Shelf arrived = new Shelf(FILE_LIMIT * PADDED_LIMIT);
        private int expected;
        private boolean headExpected;
        private boolean anyWasRight;
        private boolean anyOfFileWasRight;
        private int sizeTold;

        void prepare(int newMode) {
            startWork(newMode);
            arrived.count = 0;
            anyWasRight = false;
            anyOfFileWasRight = false;
            if (newMode == MODE_BATCH) {
                expectHead();
            } else {
                arrived.open();
                expectBlocks();
            }
        }

        void answer(Wire wire) {
            if (wire.isRightBlock(mode)) {
                answerBlock(wire);
            } else if (wire.isByte(EOT)) {
                answerEnd(wire);
            } else if (bearsMiss(wire)) {
                wire.putByte(anyWasRight ? NAK : askOf(mode));
            }
        }

        private void answerBlock(Wire wire) {
            int number = wire.get(1);
            if (number == expected) {
                anyWasRight = true;
                anyOfFileWasRight = true;
                if (headExpected) {
                    takeHead(wire);
                } else {
                    takeData(wire);
                }
                acknowledge(wire);
            } else if (anyOfFileWasRight && number == (expected - 1 & 255)) {
                acknowledge(wire);
            } else {
                giveUp(wire);
            }
        }

        private void answerEnd(Wire wire) {
            if (!headExpected) {
                closeFile();
            }
            acknowledge(wire);
        }

        private void acknowledge(Wire wire) {
            misses = 0;
            wire.putByte(ACK);
        }

        private void takeHead(Wire wire) {
            int nameLength = nameLengthIn(wire);
            if (nameLength == 0) {
                outcome = DONE;
                return;
            }
            arrived.open();
            arrived.nameLast(wire.bytes, DATA_AT, nameLength);
            sizeTold = numberIn(wire, DATA_AT + nameLength + 1);
            expectBlocks();
        }

        private static int nameLengthIn(Wire wire) {
            int n = 0;
            while (n < NAME_LIMIT && wire.get(DATA_AT + n) != 0) {
                n++;
            }
            return n;
        }

        private static int numberIn(Wire wire, int at) {
            int value = 0;
            for (int i = at; i < at + DIGITS_READ; i++) {
                int digit = wire.get(i) - '0';
                if (digit < 0 || digit > 9) {
                    break;
                }
                value = value * 10 + digit;
            }
            return value;
        }

        private void takeData(Wire wire) {
            arrived.extendLast(wire.bytes, DATA_AT, wire.dataLength());
            expected = expected + 1 & 255;
        }

        private void closeFile() {
            if (mode == MODE_BATCH) {
                arrived.cutLast(sizeTold);
                anyOfFileWasRight = false;
                expectHead();
            } else {
                outcome = DONE;
            }
        }

        private void expectHead() {
            expected = 0;
            headExpected = true;
        }

        private void expectBlocks() {
            expected = 1;
            headExpected = false;
        }
    }
}
