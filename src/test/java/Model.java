import java.util.ArrayList;
import java.util.List;
import java.util.NoSuchElementException;

/**
 * The document once more, in the plainest form and in another way than the class: all units are written out when a
 * session begins, and what is lost is null. The class must answer as this does.
 */
final class Model {
    private static final int NONE = -1;

    private final List<Integer> tape = new ArrayList<>();
    private final List<NamedBytes> files = new ArrayList<>();
    private int[] telling;
    private Session session;

    boolean feed(int... numbers) {
        if (tape.size() > 3080) {
            return false;
        }
        for (int number : numbers) {
            for (int i = 0; i < 4; i++) {
                tape.add(number >>> 8 * (3 - i) & 255);
            }
        }
        return true;
    }

    boolean end(int n) {
        if (n < 0 || n > tape.size()) {
            return false;
        }
        tape.subList(n, tape.size()).clear();
        return true;
    }

    int file() {
        int zero = tape.indexOf(0);
        if (zero < 1 || zero > 12 || !fits(tape.size() - zero - 1)) {
            return NONE;
        }
        NamedBytes file = new NamedBytes();
        file.name.addAll(tape.subList(0, zero));
        file.bytes.addAll(tape.subList(zero + 1, tape.size()));
        files.add(file);
        tape.clear();
        return files.size() - 1;
    }

    int made(int n, int seed) {
        if (!fits(n)) {
            return NONE;
        }
        NamedBytes file = new NamedBytes();
        file.name.add((int) 'f');
        for (long k = 0; k < n; k++) {
            file.bytes.add((int) Math.floorMod(seed + 5 * k, 256L));
        }
        files.add(file);
        return files.size() - 1;
    }

    private boolean fits(int n) {
        return n >= 0 && n <= 3000 && files.size() < 8 && line() == 0;
    }

    boolean clear() {
        if (line() > 0) {
            return false;
        }
        files.clear();
        return true;
    }

    boolean begin(int mode) {
        if (files.isEmpty() || mode < 0 || mode > 3) {
            return false;
        }
        session = new Session(mode, files);
        return true;
    }

    void spoil(int at, int mask) {
        telling = new int[] {at, mask & 255};
    }

    int step() {
        if (line() == 0) {
            return NONE;
        }
        int[] comes = session.line.clone();
        if (telling != null && telling[1] == 0) {
            comes = null;
        } else if (telling != null) {
            comes[(int) Math.floorMod((long) telling[0], (long) comes.length)] ^= telling[1];
        }
        telling = null;
        session.carry(comes);
        return line() == 0 ? NONE : session.line[0];
    }

    int line() {
        return session == null || session.line == null ? 0 : session.line.length;
    }

    int lineAt(int i) {
        if (i < 0 || i >= line()) {
            throw new NoSuchElementException();
        }
        return session.line[i];
    }

    int state(int side) {
        return session == null || side < 0 || side > 1 ? NONE : session.states[side];
    }

    int received() {
        return session == null ? 0 : session.received.size();
    }

    int size(int f) {
        return f < 0 || f >= received() ? NONE : session.received.get(f).bytes.size();
    }

    int byteAt(int f, int i) {
        if (i < 0 || i >= size(f)) {
            throw new NoSuchElementException();
        }
        return session.received.get(f).bytes.get(i);
    }

    int nameAt(int f, int i) {
        if (f < 0 || f >= received() || i < 0 || i >= session.received.get(f).name.size()) {
            return NONE;
        }
        return session.received.get(f).name.get(i);
    }

    private static final class NamedBytes {
        final List<Integer> name = new ArrayList<>();
        final List<Integer> bytes = new ArrayList<>();
    }

    /** One session, its states, misses and turn as small rows: 0 the sender, 1 the receiver. */
    private static final class Session {
        final int mode;
        final int ask;
        final List<int[]> units = new ArrayList<>();
        final List<NamedBytes> received = new ArrayList<>();
        final int[] states = new int[2];
        final int[] misses = new int[2];
        int turn = 0;
        int[] line;
        int unit = -1;
        int expects;
        boolean expectsHead;
        boolean anyRight;
        boolean anyRightOfFile;
        int told;

        Session(int mode, List<NamedBytes> files) {
            this.mode = mode;
            ask = mode == 0 ? 21 : 67;
            line = new int[] {ask};
            expectsHead = mode == 3;
            expects = mode == 3 ? 0 : 1;
            if (mode < 3) {
                received.add(new NamedBytes());
                writeFile(files.get(0));
                return;
            }
            for (NamedBytes file : files) {
                writeHead(file);
                writeFile(file);
            }
            units.add(Check.framed(3, 0, new int[128]));
        }

        private void writeHead(NamedBytes file) {
            int[] data = new int[128];
            int at = 0;
            for (int letter : file.name) {
                data[at++] = letter;
            }
            for (char digit : String.valueOf(file.bytes.size()).toCharArray()) {
                data[++at] = digit;
            }
            units.add(Check.framed(3, 0, data));
        }

        private void writeFile(NamedBytes file) {
            int[] bytes = file.bytes.stream().mapToInt(b -> b).toArray();
            int number = 1;
            for (int at = 0; at < bytes.length; number++) {
                int length = mode > 1 && bytes.length - at > 896 ? 1024 : 128;
                units.add(Check.block(mode, number % 256, length, bytes, at));
                at += length;
            }
            units.add(new int[] {4});
        }

        void carry(int[] comes) {
            int side = turn;
            turn = 1 - turn;
            int alone = comes != null && comes.length == 1 ? comes[0] : NONE;
            if (states[side] != 0) {
                line = null;
            } else if (alone == 24) {
                states[side] = 2;
                line = null;
            } else {
                line = side == 0 ? ofSender(alone) : ofReceiver(comes, alone);
            }
        }

        private int[] ofSender(int alone) {
            boolean waits = unit < 0;
            if (alone == (waits ? ask : 6)) {
                misses[0] = waits ? misses[0] : 0;
                unit++;
                states[0] = unit == units.size() ? 1 : 0;
                return states[0] == 1 ? null : units.get(unit).clone();
            }
            return missed(0, waits ? new int[] {0} : units.get(unit).clone());
        }

        private int[] missed(int side, int[] says) {
            misses[side]++;
            return misses[side] == 11 ? failing(side) : says;
        }

        private int[] failing(int side) {
            states[side] = 2;
            return new int[] {24};
        }

        private int[] ofReceiver(int[] comes, int alone) {
            if (alone == 4) {
                atEnd();
            } else if (comes == null || !right(comes)) {
                return missed(1, new int[] {anyRight ? 21 : ask});
            } else if (comes[1] == expects) {
                anyRight = true;
                anyRightOfFile = true;
                keep(comes);
            } else if (!anyRightOfFile || comes[1] != Math.floorMod(expects - 1, 256)) {
                return failing(1);
            }
            misses[1] = 0;
            return new int[] {6};
        }

        private boolean right(int[] comes) {
            int dataLength = comes[0] == 1 ? 128 : 1024;
            if (comes[0] < 1 || comes[0] > 2 || comes.length != dataLength + (mode == 0 ? 4 : 5)) {
                return false;
            }
            int[] data = java.util.Arrays.copyOfRange(comes, 3, 3 + dataLength);
            int[] due = Check.framed(mode, comes[1], data);
            return java.util.Arrays.equals(comes, due);
        }

        private void keep(int[] comes) {
            int end = 3 + (comes[0] == 1 ? 128 : 1024);
            if (!expectsHead) {
                for (int i = 3; i < end; i++) {
                    received.get(received.size() - 1).bytes.add(comes[i]);
                }
                expects = (expects + 1) % 256;
            } else if (comes[3] == 0) {
                states[1] = 1;
            } else {
                begin(comes, end);
            }
        }

        private void begin(int[] head, int end) {
            NamedBytes file = new NamedBytes();
            int at = 3;
            for (; head[at] != 0; at++) {
                file.name.add(head[at]);
            }
            StringBuilder digits = new StringBuilder("0");
            for (at++; at < end && Character.isDigit(head[at]) && digits.length() < 7; at++) {
                digits.append((char) head[at]);
            }
            told = Integer.parseInt(digits.toString());
            received.add(file);
            expectsHead = false;
            expects = 1;
        }

        private void atEnd() {
            if (expectsHead) {
                return;
            }
            if (mode < 3) {
                states[1] = 1;
                return;
            }
            List<Integer> bytes = received.get(received.size() - 1).bytes;
            bytes.subList(Math.min(told, bytes.size()), bytes.size()).clear();
            expectsHead = true;
            expects = 0;
            anyRightOfFile = false;
        }
    }
}
