import java.util.Arrays;
import java.util.NoSuchElementException;

/** What the tests share: counting wrong answers, and the bytes that the document asks for, made in another way. */
final class Check {
    static final int ACK = 6;
    static final int NAK = 21;
    static final int CAN = 24;
    static final int EOT = 4;
    static final int ASK = 67;
    static final int NONE = -1;
    /** Exclusive or with this makes an ACK of a NAK, and a NAK of an ACK. */
    static final int NAK_TO_ACK = NAK ^ ACK;

    private static int wrong = 0;
    private static int asked = 0;

    private Check() {
    }

    static void due(String what, long got, long want) {
        asked++;
        if (got != want) {
            wrong++;
            System.out.println(what + " answered " + got + ", due is " + want);
        }
    }

    static void due(String what, boolean got, boolean want) {
        due(what, got ? 1 : 0, want ? 1 : 0);
    }

    static void finish() {
        System.out.println(wrong == 0 ? asked + " answers are as due" : wrong + " answers are not as due");
        if (wrong != 0) {
            System.exit(1);
        }
    }

    static void noByteAt(BatchTransfer x, int f, int i) {
        int thrown = 0;
        try {
            x.byteAt(f, i);
        } catch (NoSuchElementException e) {
            thrown = 1;
        }
        due("byteAt(" + f + ", " + i + ") throws", thrown, 1);
    }

    static void noLineAt(BatchTransfer x, int i) {
        int thrown = 0;
        try {
            x.lineAt(i);
        } catch (NoSuchElementException e) {
            thrown = 1;
        }
        due("lineAt(" + i + ") throws", thrown, 1);
    }

    /** Steps, one for each answer that is due. */
    static void steps(String what, BatchTransfer x, int... want) {
        for (int i = 0; i < want.length; i++) {
            due(what + ": step " + (i + 1), x.step(), want[i]);
        }
    }

    /** A step that loses what is on the line. */
    static int lose(BatchTransfer x) {
        x.spoil(0, 0);
        return x.step();
    }

    /** A step that changes byte at by a mask. */
    static int damage(BatchTransfer x, int at, int mask) {
        x.spoil(at, mask);
        return x.step();
    }

    static void states(String what, BatchTransfer x, int sender, int receiver) {
        due(what + ": state(0)", x.state(0), sender);
        due(what + ": state(1)", x.state(1), receiver);
    }

    /** Feeds bytes, filled up with 7s to full feeds, and cuts the tape to them; only for an empty tape. */
    static void tape(BatchTransfer x, int... bytes) {
        int[] full = Arrays.copyOf(bytes, (bytes.length + 19) / 20 * 20);
        Arrays.fill(full, bytes.length, full.length, 7);
        for (int i = 0; i < full.length; i += 20) {
            int[] n = new int[5];
            for (int k = 0; k < 20; k++) {
                n[k / 4] = n[k / 4] << 8 | full[i + k] & 255;
            }
            due("feed", x.feed(n[0], n[1], n[2], n[3], n[4]), true);
        }
        due("end(" + bytes.length + ")", x.end(bytes.length), true);
    }

    /** A tape: a name, 0, bytes. */
    static int[] tapeOf(String name, int... bytes) {
        int[] all = new int[name.length() + 1 + bytes.length];
        for (int i = 0; i < name.length(); i++) {
            all[i] = name.charAt(i);
        }
        System.arraycopy(bytes, 0, all, name.length() + 1, bytes.length);
        return all;
    }

    /** The bytes of made(n, seed). */
    static int[] madeBytes(int n, int seed) {
        int[] bytes = new int[n];
        for (int k = 0; k < n; k++) {
            bytes[k] = seed + 5 * k & 255;
        }
        return bytes;
    }

    /** The CRC bit by bit, as a long division by the polynomial. */
    static int crc(int[] data) {
        int rest = 0;
        for (int i = 0; i < data.length + 2; i++) {
            int next = i < data.length ? data[i] : 0;
            for (int bit = 7; bit >= 0; bit--) {
                rest = rest << 1 | next >> bit & 1;
                if ((rest & 0x10000) != 0) {
                    rest ^= 0x11021;
                }
            }
        }
        return rest;
    }

    /** A block's bytes: a part of a file, from a byte on, filled up. */
    static int[] block(int mode, int number, int length, int[] file, int from) {
        int[] data = new int[length];
        for (int i = 0; i < length; i++) {
            data[i] = from + i < file.length ? file[from + i] : 26;
        }
        return framed(mode, number, data);
    }

    /** A HEAD's bytes; the last one's for an empty name. */
    static int[] head(String name, int size) {
        int[] data = new int[128];
        if (!name.isEmpty()) {
            String text = name + "\0" + size;
            for (int i = 0; i < text.length(); i++) {
                data[i] = text.charAt(i);
            }
        }
        return framed(3, 0, data);
    }

    /** A block of these data. */
    static int[] framed(int mode, int number, int[] data) {
        int[] all = new int[data.length + (mode == 0 ? 4 : 5)];
        all[0] = data.length == 1024 ? 2 : 1;
        all[1] = number;
        all[2] = 255 - number;
        System.arraycopy(data, 0, all, 3, data.length);
        if (mode == 0) {
            all[all.length - 1] = Arrays.stream(data).sum() % 256;
        } else {
            all[all.length - 2] = crc(data) / 256;
            all[all.length - 1] = crc(data) % 256;
        }
        return all;
    }

    /** The whole line, asked in a copy of the run, so that no object has more than 512 calls. */
    static void onLine(String what, java.util.function.Supplier<BatchTransfer> run, int[] want) {
        int most = 300;
        for (int from = 0; from < want.length; from += most) {
            BatchTransfer x = run.get();
            due(what + ": line()", x.line(), want.length);
            for (int i = from; i < Math.min(x.line(), Math.min(want.length, from + most)); i++) {
                due(what + ": lineAt(" + i + ")", x.lineAt(i), want[i]);
            }
            noLineAt(x, want.length);
            noLineAt(x, -1);
        }
    }

    /** A whole received file, asked in copies of the run, so that no object has more than 512 calls. */
    static void arrived(String what, java.util.function.Supplier<BatchTransfer> run, int f, String name, int[] want) {
        int most = 200;
        for (int from = 0; from == 0 || from < want.length; from += most) {
            BatchTransfer x = run.get();
            due(what + ": size(" + f + ")", x.size(f), want.length);
            for (int i = from; i < Math.min(x.size(f), Math.min(want.length, from + most)); i++) {
                due(what + ": byteAt(" + f + ", " + i + ")", x.byteAt(f, i), want[i]);
            }
            noByteAt(x, f, want.length);
            noByteAt(x, f, -1);
            for (int i = 0; i < name.length(); i++) {
                due(what + ": nameAt(" + f + ", " + i + ")", x.nameAt(f, i), name.charAt(i));
            }
            due(what + ": nameAt behind", x.nameAt(f, name.length()), NONE);
            due(what + ": nameAt ahead", x.nameAt(f, -1), NONE);
        }
    }

    /** Filled up with 26 to whole blocks, as it comes without a HEAD. */
    static int[] padded(int[] file, int length) {
        int[] all = Arrays.copyOf(file, length);
        Arrays.fill(all, file.length, length, 26);
        return all;
    }
}
