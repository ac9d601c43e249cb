
/** Promises 1 to 6: a new object, the tape, and the files. */
public final class FilesTest {
    public static void main(String[] args) {
        newObject();
        feedTakesTwentyBytesHighestFirst();
        feedStopsAtTheLimit();
        endCutsTheTape();
        fileEmptiesTheTape();
        fileRefusesWhatIsNone();
        fileSizes();
        nameLengths();
        atMostEightFiles();
        madeBytes();
        madeRefusesWrongSizes();
        madeLeavesTheTape();
        clearTakesAllFiles();
        nothingChangesTheFilesOfASession();
        Check.finish();
    }

    // Promise 1
    private static void newObject() {
        BatchTransfer x = new BatchTransfer();
        Check.due("new: file()", x.file(), Check.NONE);
        Check.due("new: end(0)", x.end(0), true);
        Check.due("new: end(1)", x.end(1), false);
        Check.due("new: begin(0)", x.begin(0), false);
        Check.due("new: step()", x.step(), Check.NONE);
        Check.due("new: line()", x.line(), 0);
        Check.noLineAt(x, 0);
        Check.states("new", x, Check.NONE, Check.NONE);
        Check.due("new: received()", x.received(), 0);
        Check.due("new: size(0)", x.size(0), Check.NONE);
        Check.due("new: nameAt(0, 0)", x.nameAt(0, 0), Check.NONE);
        Check.noByteAt(x, 0, 0);
        Check.due("new: clear()", x.clear(), true);
        Check.due("new: made(0, 0)", x.made(0, 0), 0);
    }

    // Promise 2
    private static void feedTakesTwentyBytesHighestFirst() {
        BatchTransfer x = new BatchTransfer();
        Check.due("feed", x.feed(0x61006263, 0x80FF7F01, -1, 0, 0x0A0B0C0D), true);
        Check.due("file()", x.file(), 0);
        int[] want = {0x62, 0x63, 0x80, 0xFF, 0x7F, 1, 255, 255, 255, 255, 0, 0, 0, 0, 10, 11, 12, 13};
        x.begin(3);
        Check.steps("fed", x, 1, 6, 1, 6, 4, 6);
        Check.due("fed: size(0)", x.size(0), want.length);
        for (int i = 0; i < want.length; i++) {
            Check.due("fed: byteAt(0, " + i + ")", x.byteAt(0, i), want[i]);
        }
        Check.due("fed: nameAt(0, 0)", x.nameAt(0, 0), 'a');
        Check.due("fed: nameAt(0, 1)", x.nameAt(0, 1), Check.NONE);
    }

    private static void feedStopsAtTheLimit() {
        BatchTransfer x = new BatchTransfer();
        for (int i = 0; i < 155; i++) {
            Check.due("feed " + i, x.feed(1, 2, 3, 4, 5), true);
        }
        Check.due("feed beyond 3100", x.feed(1, 2, 3, 4, 5), false);
        Check.due("end(3101)", x.end(3101), false);
        Check.due("end(3100)", x.end(3100), true);
        Check.due("feed beyond 3100 again", x.feed(1, 2, 3, 4, 5), false);
        Check.due("end(3081)", x.end(3081), true);
        Check.due("feed to 3101", x.feed(1, 2, 3, 4, 5), false);
        Check.due("end(3081) still", x.end(3081), true);
        Check.due("end(3080)", x.end(3080), true);
        Check.due("feed to 3100", x.feed(1, 2, 3, 4, 5), true);
    }

    // Promise 3
    private static void endCutsTheTape() {
        BatchTransfer x = new BatchTransfer();
        x.feed(0x61000102, 0x03040506, 0, 0, 0);
        Check.due("end(-1)", x.end(-1), false);
        Check.due("end(MIN)", x.end(Integer.MIN_VALUE), false);
        Check.due("end(MAX)", x.end(Integer.MAX_VALUE), false);
        Check.due("end(21)", x.end(21), false);
        Check.due("end(20)", x.end(20), true);
        Check.due("end(4)", x.end(4), true);
        Check.due("end(5) of four", x.end(5), false);
        Check.due("feed behind four", x.feed(0x11121314, 0, 0, 0, 0), true);
        Check.due("end(25)", x.end(25), false);
        Check.due("end(8)", x.end(8), true);
        Check.due("file()", x.file(), 0);
        x.begin(3);
        Check.steps("cut", x, 1, 6, 1, 6, 4, 6);
        int[] want = {1, 2, 0x11, 0x12, 0x13, 0x14};
        Check.due("cut: size(0)", x.size(0), want.length);
        for (int i = 0; i < want.length; i++) {
            Check.due("cut: byteAt(0, " + i + ")", x.byteAt(0, i), want[i]);
        }
    }

    // Promise 4
    private static void fileEmptiesTheTape() {
        BatchTransfer x = new BatchTransfer();
        Check.tape(x, Check.tapeOf("abc", 1, 2, 3));
        Check.due("file()", x.file(), 0);
        Check.due("end(1) of an empty tape", x.end(1), false);
        Check.due("file() of an empty tape", x.file(), Check.NONE);
        Check.tape(x, Check.tapeOf("d"));
        Check.due("second file()", x.file(), 1);
        Check.due("end(1) of an empty tape again", x.end(1), false);
    }

    private static void fileRefusesWhatIsNone() {
        refused("a name without 0", 'a', 'b');
        refused("no name", 0, 1, 2);
        refused("no name, and a 0 later", 0, 'a', 0, 1);
        refused("0 alone", 0);
        refused("a name of 13", Check.tapeOf("abcdefghijklm", 1));
        refused("3001 bytes", Check.tapeOf("a", new int[3001]));
        refused("3001 bytes behind a name of 12", Check.tapeOf("abcdefghijkl", new int[3001]));
    }

    private static void refused(String what, int... tape) {
        BatchTransfer x = new BatchTransfer();
        Check.tape(x, tape);
        Check.due(what + ": file()", x.file(), Check.NONE);
        Check.due(what + ": the tape stays", x.end(tape.length), true);
        Check.due(what + ": no file is there", x.begin(3), false);
        Check.due(what + ": made(1, 1)", x.made(1, 1), 0);
    }

    private static void fileSizes() {
        for (int n : new int[] {0, 1, 127, 128, 129, 3000}) {
            int[] bytes = new int[n];
            for (int i = 0; i < n; i++) {
                bytes[i] = i * 7 + i / 256 & 255;
            }
            String what = "a file of " + n;
            Check.arrived(what, () -> {
                BatchTransfer x = new BatchTransfer();
                Check.tape(x, Check.tapeOf("name", bytes));
                Check.due(what + ": file()", x.file(), 0);
                x.begin(3);
                while (x.step() != Check.NONE) {
                    continue;
                }
                return x;
            }, 0, "name", bytes);
        }
    }

    private static void nameLengths() {
        for (String name : new String[] {"a", "ab", "abcdefghijk", "abcdefghijkl", "\u0001\u00ff\u0080", "123"}) {
            Check.arrived("a name of " + name.length(), () -> {
                BatchTransfer x = new BatchTransfer();
                Check.tape(x, Check.tapeOf(name, 9, 0, 8));
                Check.due("file()", x.file(), 0);
                x.begin(3);
                Check.steps("name", x, 1, 6, 1, 6, 4, 6, 1, 6, -1);
                return x;
            }, 0, name, new int[] {9, 0, 8});
        }
    }

    private static void atMostEightFiles() {
        BatchTransfer x = new BatchTransfer();
        for (int i = 0; i < 8; i++) {
            if (i % 2 == 0) {
                Check.due("made " + i, x.made(i, i), i);
            } else {
                Check.tape(x, Check.tapeOf("n" + i, i));
                Check.due("file " + i, x.file(), i);
            }
        }
        Check.tape(x, Check.tapeOf("n8", 8));
        Check.due("ninth file()", x.file(), Check.NONE);
        Check.due("ninth made()", x.made(0, 0), Check.NONE);
        Check.due("the tape stays", x.end(4), true);
        Check.due("clear()", x.clear(), true);
        Check.due("file() behind clear()", x.file(), 0);
    }

    // Promise 5
    private static void madeBytes() {
        for (int seed : new int[] {0, 7, 255, 256, -1, -300, Integer.MAX_VALUE, Integer.MIN_VALUE}) {
            for (int n : new int[] {0, 1, 60, 3000}) {
                Check.arrived("made(" + n + ", " + seed + ")", () -> {
                    BatchTransfer x = new BatchTransfer();
                    Check.due("made", x.made(n, seed), 0);
                    x.begin(3);
                    while (x.step() != Check.NONE) {
                        continue;
                    }
                    return x;
                }, 0, "f", Check.madeBytes(n, seed));
            }
        }
    }

    private static void madeRefusesWrongSizes() {
        BatchTransfer x = new BatchTransfer();
        for (int n : new int[] {-1, 3001, Integer.MIN_VALUE, Integer.MAX_VALUE}) {
            Check.due("made(" + n + ", 1)", x.made(n, 1), Check.NONE);
        }
        Check.due("no file is there", x.begin(1), false);
        Check.due("made(3000, 1)", x.made(3000, 1), 0);
        Check.due("made(0, 1)", x.made(0, 1), 1);
    }

    private static void madeLeavesTheTape() {
        BatchTransfer x = new BatchTransfer();
        Check.tape(x, Check.tapeOf("ab", 5));
        Check.due("made(2, 2)", x.made(2, 2), 0);
        Check.due("the tape's file()", x.file(), 1);
    }

    // Promise 6
    private static void clearTakesAllFiles() {
        BatchTransfer x = new BatchTransfer();
        x.made(10, 1);
        x.made(20, 2);
        Check.due("clear()", x.clear(), true);
        Check.due("begin(3) without files", x.begin(3), false);
        Check.due("made(2, 9)", x.made(2, 9), 0);
        Check.due("begin(3)", x.begin(3), true);
        Check.due("clear() in a session", x.clear(), false);
        Check.steps("one file alone", x, 1, 6, 1, 6, 4, 6, 1, 6, -1);
        Check.due("received()", x.received(), 1);
        Check.due("clear() behind a session", x.clear(), true);
        Check.due("what was received stays", x.size(0), 2);
        Check.due("its bytes stay", x.byteAt(0, 1), 14);
        Check.states("behind clear()", x, 1, 1);
        Check.due("begin(0) without files", x.begin(0), false);
        Check.due("what was received stays still", x.received(), 1);
    }

    private static void nothingChangesTheFilesOfASession() {
        BatchTransfer x = new BatchTransfer();
        x.made(1, 1);
        Check.tape(x, Check.tapeOf("ab", 5));
        x.begin(0);
        Check.due("file() in a session", x.file(), Check.NONE);
        Check.due("made() in a session", x.made(1, 1), Check.NONE);
        Check.due("clear() in a session", x.clear(), false);
        Check.due("feed in a session", x.feed(1, 2, 3, 4, 5), true);
        Check.due("end in a session", x.end(4), true);
        Check.steps("session", x, 1, 6, 4, 6, -1);
        Check.due("file() behind it", x.file(), 1);
        Check.due("made() behind it", x.made(1, 1), 2);
    }
}
