import java.util.Random;

/** Promises 13 to 16: what the receiver has, while it comes, at the end, and over bad lines. */
public final class ReceivedTest {
    public static void main(String[] args) {
        oneFileWithoutName();
        filesGrow();
        filesThatAreNotThere();
        padding();
        wholeBatches();
        largestFilesFromTheTape();
        linesThatLose();
        anyCallsInAnyOrder();
        Check.finish();
    }

    private static void oneFileWithoutName() {
        for (int mode = 0; mode < 3; mode++) {
            BatchTransfer x = new BatchTransfer();
            x.made(200, 3);
            x.made(100, 4);
            x.begin(mode);
            Check.due("received() at first", x.received(), 1);
            Check.due("size(0) at first", x.size(0), 0);
            Check.due("nameAt(0, 0)", x.nameAt(0, 0), Check.NONE);
            Check.noByteAt(x, 0, 0);
            Check.steps("first block", x, 1, 6);
            Check.due("size(0)", x.size(0), 128);
            Check.due("byteAt(0, 127)", x.byteAt(0, 127), 3 + 5 * 127 & 255);
            Check.noByteAt(x, 0, 128);
            Check.steps("the rest", x, 1, 6, 4, 6, -1);
            Check.due("received()", x.received(), 1);
            Check.due("size(0) is of whole blocks", x.size(0), 256);
            Check.due("byteAt(0, 199)", x.byteAt(0, 199), 3 + 5 * 199 & 255);
            Check.due("byteAt(0, 200)", x.byteAt(0, 200), 26);
            Check.due("size(1)", x.size(1), Check.NONE);
            Check.due("nameAt(0, 0)", x.nameAt(0, 0), Check.NONE);
        }
    }

    private static void filesGrow() {
        BatchTransfer x = new BatchTransfer();
        Check.tape(x, Check.tapeOf("first", Check.madeBytes(130, 200)));
        x.file();
        x.made(0, 0);
        x.made(900, 9);
        x.begin(3);
        Check.due("at first", x.received(), 0);
        Check.due("size(0) at first", x.size(0), Check.NONE);
        x.step();
        Check.due("the HEAD has not come yet", x.received(), 0);
        x.step();
        Check.due("the HEAD has come", x.received(), 1);
        Check.due("without bytes yet", x.size(0), 0);
        Check.due("nameAt(0, 4)", x.nameAt(0, 4), 't');
        Check.due("nameAt(0, 5)", x.nameAt(0, 5), Check.NONE);
        x.step();
        Check.due("a block on the line is not kept yet", x.size(0), 0);
        x.step();
        Check.due("the first block", x.size(0), 128);
        Check.steps("second block", x, 1, 6);
        Check.due("before EOT with what fills it up", x.size(0), 256);
        Check.due("26", x.byteAt(0, 130), 26);
        Check.steps("EOT", x, 4, 6);
        Check.due("behind EOT as its HEAD told", x.size(0), 130);
        Check.noByteAt(x, 0, 130);
        Check.due("still one", x.received(), 1);
        Check.steps("the empty one", x, 1, 6);
        Check.due("two", x.received(), 2);
        Check.due("size(1)", x.size(1), 0);
        Check.noByteAt(x, 1, 0);
        Check.steps("its EOT and the third", x, 4, 6, 1, 6, 2, 6);
        Check.due("the third is filled up", x.size(2), 1024);
        Check.due("the first is as it was", x.byteAt(0, 129), 200 + 5 * 129 & 255);
        Check.steps("the end", x, 4, 6, 1, 6, -1);
        Check.due("three", x.received(), 3);
        Check.due("size(2)", x.size(2), 900);
        Check.due("byteAt(2, 899)", x.byteAt(2, 899), 9 + 5 * 899 & 255);
        Check.due("nameAt(2, 0)", x.nameAt(2, 0), 'f');
        Check.states("the end", x, 1, 1);
    }

    private static void filesThatAreNotThere() {
        BatchTransfer x = new BatchTransfer();
        x.made(5, 1);
        x.made(6, 1);
        x.begin(3);
        Check.steps("one file", x, 1, 6, 1, 6, 4, 6);
        for (int f : new int[] {-1, 1, 2, 7, 8, 9, Integer.MIN_VALUE, Integer.MAX_VALUE}) {
            Check.due("size(" + f + ")", x.size(f), Check.NONE);
            Check.due("nameAt(" + f + ", 0)", x.nameAt(f, 0), Check.NONE);
            Check.noByteAt(x, f, 0);
        }
        for (int i : new int[] {-1, 5, 127, Integer.MIN_VALUE, Integer.MAX_VALUE}) {
            Check.noByteAt(x, 0, i);
            Check.due("nameAt(0, " + i + ")", x.nameAt(0, i), Check.NONE);
        }
    }

    private static void padding() {
        int[][] lengths = {{0, 0, 0}, {1, 128, 128}, {128, 128, 128}, {129, 256, 256}, {896, 896, 896}, {897, 1024, 1024},
            {1025, 1152, 1152}, {1921, 2048, 2048}, {3000, 3072, 3072}, {2000, 2048, 2048}, {2049, 2176, 2176}};
        for (int[] row : lengths) {
            for (int mode = 0; mode < 3; mode++) {
                int m = mode;
                int[] want = Check.padded(Check.madeBytes(row[0], 11), mode == 2 ? row[2] : row[1]);
                Check.arrived("mode " + m + ", " + row[0] + " bytes", () -> whole(m, row[0]), 0, "", want);
            }
        }
    }

    private static BatchTransfer whole(int mode, int... sizes) {
        BatchTransfer x = new BatchTransfer();
        for (int size : sizes) {
            x.made(size, 11);
        }
        x.begin(mode);
        for (int i = 0; i < 450 && x.step() != Check.NONE; i++) {
            continue;
        }
        Check.states("whole", x, 1, 1);
        return x;
    }

    private static void wholeBatches() {
        int[] sizes = {3000, 2944, 0, 896, 897, 1, 2500, 3000};
        for (int f = 0; f < sizes.length; f++) {
            Check.arrived("batch file " + f, () -> whole(3, sizes), f, "f", Check.madeBytes(sizes[f], 11));
        }
        Check.due("eight", whole(3, sizes).received(), 8);
        int[] largest = {3000, 3000, 3000, 3000, 3000, 3000, 3000, 3000};
        for (int f = 0; f < largest.length; f++) {
            Check.arrived("largest file " + f, () -> whole(3, largest), f, "f", Check.madeBytes(3000, 11));
        }
    }

    private static void largestFilesFromTheTape() {
        BatchTransfer feeder = new BatchTransfer();
        int[] bytes = Check.madeBytes(3000, 77);
        for (int f = 0; f < 7; f++) {
            feeder.made(3000, f);
        }
        Check.tape(feeder, Check.tapeOf("the.last.one", bytes));
        Check.due("the eighth of 3000 bytes", feeder.file(), 7);
        feeder.begin(3);
        for (int i = 0; i < 150 && feeder.step() != Check.NONE; i++) {
            continue;
        }
        Check.states("eight of 3000 bytes", feeder, 1, 1);
        Check.due("size(7)", feeder.size(7), 3000);
        for (int i = 0; i < 3000; i += 60) {
            Check.due("byteAt(7, " + i + ")", feeder.byteAt(7, i), bytes[i]);
        }
    }

    /** Where lines only lose, or damage only blocks, two done sides have the same files. */
    private static void linesThatLose() {
        Random random = new Random(5);
        int done = 0;
        for (int run = 0; run < 3000; run++) {
            BatchTransfer x = new BatchTransfer();
            int[] sizes = new int[1 + random.nextInt(3)];
            for (int f = 0; f < sizes.length; f++) {
                sizes[f] = random.nextInt(random.nextBoolean() ? 200 : 3001);
                x.made(sizes[f], f);
            }
            int mode = random.nextInt(4);
            x.begin(mode);
            int harm = 2 + random.nextInt(8);
            for (int i = 0; i < 150 && x.line() > 0; i++) {
                if (random.nextInt(harm) == 0) {
                    x.spoil(random.nextInt(), x.line() == 1 ? 0 : random.nextInt());
                }
                x.step();
            }
            if (x.state(0) == 1) {
                done++;
                Check.due("run " + run + ": the receiver is done too", x.state(1), 1);
            }
            if (x.state(1) == 1) {
                sameFiles("run " + run, x, mode, sizes);
            }
        }
        Check.due("many runs get through", done > 1000, true);
    }

    private static void sameFiles(String what, BatchTransfer x, int mode, int[] sizes) {
        Check.due(what + ": received()", x.received(), mode == 3 ? sizes.length : 1);
        for (int f = 0; f < x.received(); f++) {
            int size = x.size(f);
            Check.due(what + ": size(" + f + ")", mode == 3 ? size == sizes[f] : size >= sizes[f], true);
            for (int i = 0; i < sizes[f] && i < size; i += 53) {
                Check.due(what + ": byteAt(" + f + ", " + i + ")", x.byteAt(f, i), f + 5 * i & 255);
            }
        }
    }

    /** No call throws what it may not, whatever came before, and answers stay in their ranges. */
    private static void anyCallsInAnyOrder() {
        for (int run = 0; run < 15000; run++) {
            Random random = new Random(run);
            BatchTransfer x = new BatchTransfer();
            // Each turn makes up to six calls, and nothing is promised behind the 512th.
            for (int turn = 0; turn < 85; turn++) {
                anyCall(random, x);
            }
        }
    }

    private static void anyCall(Random random, BatchTransfer x) {
        int some = random.nextInt(4) == 0 ? random.nextInt() : random.nextInt(12) - 2;
        switch (random.nextInt(24)) {
            case 0:
                x.feed(random.nextInt(), random.nextInt() & 0xFF00FFFF, some, 0, some);
                break;
            case 1:
                x.end(some);
                break;
            case 2:
                Check.due("file() in its range", inRange(x.file(), -1, 7), true);
                break;
            case 3:
                Check.due("made() in its range", inRange(x.made(random.nextInt(3100) - 20, some), -1, 7), true);
                break;
            case 4:
                if (random.nextInt(9) == 0) {
                    x.clear();
                }
                break;
            case 5:
                if (random.nextInt(9) == 0 || x.line() == 0) {
                    x.begin(some);
                }
                break;
            case 6:
            case 7:
                x.spoil(random.nextInt(), random.nextInt(3) == 0 ? Check.NAK_TO_ACK : random.nextInt());
                break;
            case 8:
                Check.due("state() in its range", inRange(x.state(some), -1, 2), true);
                Check.due("received() in its range", inRange(x.received(), 0, 8), true);
                Check.due("size() in its range", inRange(x.size(some), -1, 3840), true);
                Check.due("nameAt() in its range", inRange(x.nameAt(some, some & 3), -1, 255), true);
                break;
            case 9:
                if (some >= 0 && some < x.received() && x.size(some) > 0) {
                    Check.due("byteAt() in its range", inRange(x.byteAt(some, x.size(some) - 1), 0, 255), true);
                    Check.noByteAt(x, some, x.size(some));
                }
                Check.noLineAt(x, x.line());
                break;
            default:
                int first = x.step();
                Check.due("step() in its range", inRange(first, -1, 255), true);
                Check.due("NONE and an empty line", (first == Check.NONE) == (x.line() == 0), true);
                if (x.line() > 0) {
                    Check.due("the line's first byte", x.lineAt(0), first);
                }
                break;
        }
    }

    private static boolean inRange(int value, int least, int most) {
        return value >= least && value <= most;
    }
}
