import java.util.function.Supplier;

/** Promises 7 to 12: sessions, what spoils them, their steps, the line, and how the sides end. */
public final class SessionTest {
    public static void main(String[] args) {
        Check.due("the test's own CRC", Check.crc(new int[] {'1', '2', '3', '4', '5', '6', '7', '8', '9'}), 0x31C3);
        beginChoosesTheMode();
        beginAnew();
        beginForgetsTheSessionBefore();
        blocksOnTheLine();
        largeBlocks();
        headsOnTheLine();
        spoilOnce();
        spoilPlaces();
        damageOfAnyByteOfABlock();
        askIsWaitedFor();
        missesOfTheSender();
        missesOfTheReceiver();
        acksWipeMisses();
        cansEndSessions();
        repeatedBlocks();
        skippedBlocks();
        repeatedEnds();
        skippedEnds();
        earlyEnds();
        endedSidesSayNothing();
        statesOfOthers();
        Check.finish();
    }

    private static BatchTransfer with(int... sizes) {
        BatchTransfer x = new BatchTransfer();
        for (int i = 0; i < sizes.length; i++) {
            x.made(sizes[i], i * 50);
        }
        return x;
    }

    private static BatchTransfer begun(int mode, int... sizes) {
        BatchTransfer x = with(sizes);
        Check.due("begin(" + mode + ")", x.begin(mode), true);
        return x;
    }

    private static Supplier<BatchTransfer> after(int steps, int mode, int... sizes) {
        return () -> {
            BatchTransfer x = begun(mode, sizes);
            for (int i = 0; i < steps; i++) {
                x.step();
            }
            return x;
        };
    }

    // Promise 7
    private static void beginChoosesTheMode() {
        BatchTransfer x = with(1);
        for (int mode : new int[] {-1, 4, Integer.MIN_VALUE, Integer.MAX_VALUE}) {
            Check.due("begin(" + mode + ")", x.begin(mode), false);
            Check.states("no such mode", x, Check.NONE, Check.NONE);
            Check.due("no such mode: line()", x.line(), 0);
        }
        int[] asks = {21, 67, 67, 67};
        for (int mode = 0; mode < 4; mode++) {
            Check.due("begin(" + mode + ")", x.begin(mode), true);
            Check.due("line()", x.line(), 1);
            Check.due("the ASK", x.lineAt(0), asks[mode]);
            Check.noLineAt(x, 1);
            Check.states("at first", x, 0, 0);
            Check.due("received()", x.received(), mode == 3 ? 0 : 1);
        }
    }

    private static void beginAnew() {
        BatchTransfer x = begun(3, 200, 5);
        Check.steps("cut off", x, 1, 6, 1, 6);
        Check.due("a file has begun", x.size(0), 128);
        Check.due("begin(4) in a session", x.begin(4), false);
        Check.due("it goes on", x.line(), 1);
        Check.due("its file is there", x.size(0), 128);
        Check.due("begin(3) anew", x.begin(3), true);
        Check.due("what was received goes", x.received(), 0);
        Check.due("size(0)", x.size(0), Check.NONE);
        Check.noByteAt(x, 0, 0);
        Check.due("nameAt(0, 0)", x.nameAt(0, 0), Check.NONE);
        Check.steps("anew", x, 1, 6, 1, 6, 1, 6, 4, 6, 1, 6, 1, 6, 4, 6, 1, 6, -1);
        Check.states("anew", x, 1, 1);
        Check.due("begin(1) behind it", x.begin(1), true);
        Check.states("begun again", x, 0, 0);
        Check.due("received()", x.received(), 1);
        Check.due("size(0)", x.size(0), 0);
        Check.steps("the first file alone", x, 1, 6, 1, 6, 4, 6, -1);
        Check.due("received() then", x.received(), 1);
        Check.due("size(0) then", x.size(0), 256);
    }

    private static void beginForgetsTheSessionBefore() {
        BatchTransfer x = begun(1, 10);
        for (int i = 0; i < 10; i++) {
            Check.due("a miss of the sender", Check.lose(x), 0);
            Check.due("a miss of the receiver", x.step(), 67);
        }
        x.begin(1);
        for (int i = 0; i < 10; i++) {
            Check.due("begun anew: a miss of the sender", Check.lose(x), 0);
            Check.due("begun anew: a miss of the receiver", x.step(), 67);
        }
        BatchTransfer y = begun(3, 10);
        Check.steps("HEAD and block", y, 1, 6, 1, 6);
        y.begin(3);
        Check.due("begun anew: not asked yet", Check.lose(y), 0);
        Check.due("begun anew: nothing was right yet", Check.lose(y), 67);
        Check.steps("begun anew", y, 1, 6, 1, 6, 4, 6, 1, 6, -1);
        y.begin(2);
        Check.due("begun without names", y.nameAt(0, 0), Check.NONE);
        Check.due("begun without bytes", y.size(0), 0);
        y.step();
        y.begin(0);
        Check.steps("begun with a block on the line: the sender's turn", y, 1, 6, 4, 6, -1);
        BatchTransfer failed = begun(1, 10);
        Check.due("failed", Check.damage(failed, 0, 67 ^ 24), Check.NONE);
        failed.begin(1);
        Check.states("begun behind a failure", failed, 0, 0);
        Check.steps("begun behind a failure", failed, 1, 6, 4, 6, -1);
    }

    // Promises 9 to 11: blocks of 128 in all modes
    private static void blocksOnTheLine() {
        int[] file = Check.madeBytes(300, 0);
        for (int mode = 0; mode < 3; mode++) {
            for (int number = 1; number <= 3; number++) {
                int[] block = Check.block(mode, number, 128, file, (number - 1) * 128);
                Check.onLine("mode " + mode + " block " + number, after(number * 2 - 1, mode, 300), block);
            }
            Check.onLine("mode " + mode + " EOT", after(7, mode, 300), new int[] {4});
            Check.onLine("mode " + mode + " ACK", after(8, mode, 300), new int[] {6});
            BatchTransfer x = after(9, mode, 300).get();
            Check.due("over: line()", x.line(), 0);
            Check.noLineAt(x, 0);
            Check.due("over: step()", x.step(), Check.NONE);
            Check.states("over", x, 1, 1);
        }
        BatchTransfer empty = begun(1, 0);
        Check.steps("an empty file has no block", empty, 4, 6, -1);
        Check.states("an empty file", empty, 1, 1);
        BatchTransfer many = begun(0, 3000);
        for (int i = 1; i <= 24; i++) {
            Check.due("block " + i, many.step(), 1);
            Check.due("its number", many.lineAt(1), i);
            Check.due("less that", many.lineAt(2), 255 - i);
            Check.due("ACK", many.step(), 6);
        }
        Check.steps("behind 24 blocks", many, 4, 6, -1);
        Check.due("24 blocks", many.size(0), 3072);
    }

    private static void largeBlocks() {
        int[][] want = {{128, 1}, {896, 1, 1, 1, 1, 1, 1, 1}, {897, 2}, {1024, 2}, {1025, 2, 1}, {1920, 2, 1, 1, 1, 1, 1, 1, 1},
            {1921, 2, 2}, {2944, 2, 2, 1, 1, 1, 1, 1, 1, 1}, {2945, 2, 2, 2}, {3000, 2, 2, 2}};
        for (int[] row : want) {
            BatchTransfer two = begun(2, row[0]);
            BatchTransfer three = begun(3, row[0]);
            Check.steps("head", three, 1, 6);
            for (int i = 1; i < row.length; i++) {
                String what = row[0] + " bytes, block " + i;
                Check.steps(what, two, row[i]);
                Check.steps(what, three, row[i]);
                Check.due(what + ": line()", two.line(), row[i] == 2 ? 1029 : 133);
                Check.due(what + ": number", two.lineAt(1), i);
                Check.steps(what, two, 6);
                Check.steps(what, three, 6);
            }
            Check.steps(row[0] + " bytes, mode 2", two, 4, 6, -1);
            Check.steps(row[0] + " bytes, mode 3", three, 4, 6, 1, 6, -1);
            Check.due("size in mode 3", three.size(0), row[0]);
        }
        int[] file = Check.madeBytes(1500, 0);
        Check.onLine("a large block", after(1, 2, 1500), Check.block(2, 1, 1024, file, 0));
        Check.onLine("a small one behind it", after(3, 2, 1500), Check.block(2, 2, 128, file, 1024));
        Check.onLine("a large one, filled up", after(1, 2, 900), Check.block(2, 1, 1024, Check.madeBytes(900, 0), 0));
    }

    private static void headsOnTheLine() {
        for (int size : new int[] {0, 9, 10, 99, 128}) {
            Check.onLine("HEAD of " + size, after(1, 3, size), Check.head("f", size));
        }
        Check.onLine("HEAD of 3000", after(1, 3, 3000), Check.head("f", 3000));
        Check.onLine("HEAD of 1000", after(1, 3, 1000), Check.head("f", 1000));
        Check.onLine("the second HEAD", after(7, 3, 100, 205), Check.head("f", 205));
        Check.onLine("the last HEAD", after(7, 3, 100), Check.head("", 0));
        Check.onLine("a block of the second file", after(9, 3, 100, 205),
            Check.block(3, 1, 128, Check.madeBytes(205, 50), 0));
        Check.onLine("a HEAD with a name of 12", () -> {
            BatchTransfer x = new BatchTransfer();
            Check.tape(x, Check.tapeOf("abcdefghijkl", 1, 2, 3));
            x.file();
            x.begin(3);
            x.step();
            return x;
        }, Check.head("abcdefghijkl", 3));
        BatchTransfer eight = begun(3, 0, 1, 0, 129, 0, 1, 0, 2);
        int steps = 0;
        while (steps < 400 && eight.step() != Check.NONE) {
            steps++;
        }
        Check.due("steps of eight files", steps, 2 * (8 + 5 + 8 + 1));
        Check.states("eight files", eight, 1, 1);
        Check.due("eight files", eight.received(), 8);
    }

    // Promise 8
    private static void spoilOnce() {
        BatchTransfer x = begun(1, 100);
        x.spoil(0, 0);
        x.spoil(0, 1 << 8);
        x.spoil(0, -1);
        x.spoil(0, 256 + 67 ^ 6);
        Check.due("the line isn't changed yet", x.lineAt(0), 67);
        Check.steps("the latest telling: an ACK, not asked yet", x, 0);
        Check.steps("told once only", x, 67, 1, 6, 4, 6, -1);
        BatchTransfer y = begun(1, 100);
        y.spoil(3, 0x7F00);
        Check.steps("a mask of no lowest bits loses", y, 0, 67);
        y.spoil(3, 0x7F00);
        y.spoil(0, 67 ^ 24);
        Check.steps("a CAN made by damage", y, -1);
        Check.states("a CAN made by damage", y, 2, 0);
        BatchTransfer z = with(100);
        z.spoil(0, 0);
        Check.due("no session: step()", z.step(), Check.NONE);
        z.begin(1);
        Check.steps("told before the session: its first step", z, 0, 67, 1);
    }

    private static void spoilPlaces() {
        int[][] ats = {{0, 0}, {1, 0}, {-1, 0}, {7, 0}, {Integer.MIN_VALUE, 0}, {Integer.MAX_VALUE, 0}};
        for (int[] at : ats) {
            BatchTransfer x = begun(3, 5);
            Check.due("one byte, at " + at[0], Check.damage(x, at[0], 67 ^ 24), Check.NONE);
            Check.states("one byte, at " + at[0], x, 2, 0);
        }
        // One bit in the number is mended by no other byte; the block is refused wherever the place leads.
        for (int at : new int[] {131, 132, -1, -132, 264, Integer.MIN_VALUE, Integer.MAX_VALUE}) {
            BatchTransfer x = begun(0, 5);
            x.step();
            Check.due("a block, at " + at, Check.damage(x, at, 128), 21);
            Check.steps("a block, at " + at, x, 1, 6, 4, 6, -1);
        }
    }

    private static void damageOfAnyByteOfABlock() {
        for (int mode = 0; mode < 4; mode++) {
            int length = mode == 0 ? 132 : mode == 1 ? 133 : mode == 2 ? 1029 : 133;
            int reply = mode == 0 ? 21 : 67;
            for (int at = 0; at < length; at++) {
                BatchTransfer x = begun(mode, 1000);
                x.step();
                Check.due("line()", x.line(), length);
                Check.due("mode " + mode + " damaged at " + at, Check.damage(x, at, 1 + at % 255), reply);
                Check.due("size", x.size(0), mode == 3 ? Check.NONE : 0);
            }
            for (int mask = 1; mask < 256; mask++) {
                BatchTransfer x = begun(mode, 1000);
                x.step();
                Check.due("mode " + mode + " first byte by " + mask, Check.damage(x, 0, mask), reply);
            }
        }
    }

    // Promise 9: the sender before its first unit
    private static void askIsWaitedFor() {
        for (int mode = 0; mode < 4; mode++) {
            for (int heard = 0; heard < 256; heard++) {
                BatchTransfer x = begun(mode, 10);
                int ask = mode == 0 ? 21 : 67;
                if (heard == ask) {
                    continue;
                }
                int want = heard == 24 ? Check.NONE : 0;
                Check.due("mode " + mode + ", " + heard + " for the ASK", Check.damage(x, 0, ask ^ heard), want);
                Check.due("state(0)", x.state(0), heard == 24 ? 2 : 0);
            }
        }
        BatchTransfer x = begun(2, 10);
        Check.due("byte 0", Check.lose(x), 0);
        Check.due("line()", x.line(), 1);
        Check.steps("ASK again", x, 67, 1, 6, 4, 6, -1);
    }

    private static void missesOfTheSender() {
        BatchTransfer x = begun(1, 10);
        for (int i = 0; i < 10; i++) {
            Check.due("miss " + (i + 1), Check.lose(x), 0);
            Check.due("ASK again", x.step(), 67);
        }
        // The ASK wipes no misses, so one more is the eleventh.
        Check.steps("the ASK at last", x, 1, 6);
        BatchTransfer y = begun(1, 10);
        for (int i = 0; i < 10; i++) {
            Check.lose(y);
            y.step();
        }
        Check.steps("the ASK at last", y, 1);
        Check.due("ACK", y.step(), 6);
        Check.due("the eleventh miss", Check.lose(y), 24);
        Check.states("the eleventh miss", y, 2, 0);
        Check.due("its CAN comes", y.step(), Check.NONE);
        Check.states("its CAN comes", y, 2, 2);

        BatchTransfer z = begun(1, 10);
        z.step();
        for (int i = 0; i < 10; i++) {
            Check.due("ACK", z.step(), 6);
            Check.due("ACK lost: block again", Check.lose(z), 1);
            Check.due("its number", z.lineAt(1), 1);
        }
        Check.due("ACK", z.step(), 6);
        Check.due("the eleventh", Check.damage(z, 0, 1), 24);
        Check.states("the eleventh", z, 2, 0);
    }

    private static void missesOfTheReceiver() {
        BatchTransfer x = begun(1, 10);
        for (int i = 0; i < 5; i++) {
            Check.due("block", x.step(), 1);
            Check.due("lost: ASK again", Check.lose(x), 67);
        }
        for (int i = 0; i < 5; i++) {
            Check.due("block", x.step(), 1);
            Check.due("damaged: ASK again", Check.damage(x, 50, 1), 67);
        }
        Check.due("block", x.step(), 1);
        // The sender bears ten misses: the ASK came once for the first unit and ten times for none.
        Check.due("the receiver's eleventh", Check.lose(x), 24);
        Check.states("the receiver's eleventh", x, 0, 2);
        Check.due("its CAN is lost: the sender's eleventh", Check.lose(x), 24);
        Check.states("the sender's eleventh", x, 2, 2);
        Check.due("nobody hears it", x.step(), Check.NONE);

        BatchTransfer y = begun(1, 200);
        Check.steps("first block", y, 1, 6, 1);
        for (int i = 0; i < 10; i++) {
            Check.due("behind a right block: NAK", Check.lose(y), 21);
            Check.due("block", y.step(), 1);
        }
        Check.due("the eleventh", Check.lose(y), 24);
        Check.due("CAN comes", y.step(), Check.NONE);
        Check.states("CAN comes", y, 2, 2);
        Check.due("one block is there", y.size(0), 128);

        BatchTransfer z = begun(3, 10, 10);
        z.step();
        Check.due("HEAD lost: ASK", Check.lose(z), 67);
        Check.steps("HEAD", z, 1, 6, 1);
        Check.due("behind a HEAD: NAK", Check.lose(z), 21);
        Check.steps("file 0", z, 1, 6, 4);
        Check.due("EOT lost: NAK", Check.lose(z), 21);
        Check.steps("EOT again", z, 4, 6, 1);
        Check.due("the second HEAD lost: NAK", Check.lose(z), 21);
        Check.steps("the rest", z, 1, 6, 1, 6, 4, 6, 1, 6, -1);
        Check.states("the rest", z, 1, 1);
    }

    private static void acksWipeMisses() {
        BatchTransfer x = begun(1, 400);
        x.step();
        for (int block = 0; block < 4; block++) {
            for (int i = 0; i < 10; i++) {
                Check.due("a miss", Check.lose(x), block == 0 ? 67 : 21);
                Check.due("again", x.step(), 1);
            }
            Check.steps("right", x, 6, block == 3 ? 4 : 1);
        }
        for (int i = 0; i < 10; i++) {
            Check.due("EOT lost", Check.lose(x), 21);
            Check.due("EOT again", x.step(), 4);
        }
        Check.steps("at its end", x, 6, -1);
        Check.states("at its end", x, 1, 1);

        // The sender's misses go on through NAKs and lost ACKs until an ACK comes.
        BatchTransfer y = begun(3, 10);
        y.step();
        y.step();
        Check.due("block", y.step(), 1);
        for (int i = 0; i < 5; i++) {
            Check.due("lost", Check.lose(y), 21);
            Check.due("again", y.step(), 1);
        }
        Check.due("right", y.step(), 6);
        for (int i = 0; i < 5; i++) {
            Check.due("ACK lost", Check.lose(y), 1);
            Check.due("repeated", y.step(), 6);
        }
        Check.due("EOT", y.step(), 4);
        for (int i = 0; i < 10; i++) {
            Check.due("EOT lost", Check.lose(y), 21);
            Check.due("EOT again", y.step(), 4);
        }
        Check.steps("the rest", y, 6, 1, 6, -1);
        repeatsWipeTheReceiversMisses();
    }

    private static void repeatsWipeTheReceiversMisses() {
        BatchTransfer x = begun(3, 10);
        Check.steps("HEAD", x, 1, 6);
        for (int round = 0; round < 5; round++) {
            Check.due("HEAD's ACK lost", Check.lose(x), 1);
            Check.due("HEAD lost", Check.lose(x), 21);
            Check.due("HEAD again", x.step(), 1);
            Check.due("repeated HEAD", x.step(), 6);
        }
        // Ten misses follow each other now; only a wiped count bears them with the five before.
        Check.due("block", x.step(), 1);
        for (int i = 0; i < 10; i++) {
            Check.due("lost", Check.lose(x), 21);
            Check.due("again", x.step(), 1);
        }
        Check.steps("right", x, 6, 4);
        for (int i = 0; i < 5; i++) {
            Check.due("EOT lost", Check.lose(x), 21);
            Check.due("EOT again", x.step(), 4);
        }
        Check.due("ACK", x.step(), 6);
        Check.due("ACK lost: EOT again", Check.lose(x), 4);
        Check.due("a HEAD is expected: ACK", x.step(), 6);
        Check.due("the last HEAD", x.step(), 1);
        for (int i = 0; i < 10; i++) {
            Check.due("the last HEAD lost", Check.lose(x), 21);
            Check.due("the last HEAD again", x.step(), 1);
        }
        Check.steps("the end", x, 6, -1);
        Check.states("the end", x, 1, 1);
    }

    private static void cansEndSessions() {
        BatchTransfer x = begun(1, 10);
        Check.steps("block", x, 1, 6);
        Check.due("ACK becomes CAN", Check.damage(x, 0, 6 ^ 24), Check.NONE);
        Check.states("ACK becomes CAN", x, 2, 0);
        Check.due("over", x.line(), 0);
        Check.due("what was received is there", x.size(0), 128);
        BatchTransfer y = begun(1, 10);
        Check.steps("EOT", y, 1, 6, 4);
        Check.due("EOT becomes CAN", Check.damage(y, 0, 4 ^ 24), Check.NONE);
        Check.states("EOT becomes CAN", y, 0, 2);
        BatchTransfer z = begun(1, 10);
        Check.lose(z);
        Check.due("byte 0 becomes CAN", Check.damage(z, 0, 24), Check.NONE);
        Check.states("byte 0 becomes CAN", z, 0, 2);
        // A block that begins with CAN or EOT is no byte alone.
        for (int first : new int[] {24, 4}) {
            BatchTransfer b = begun(0, 10);
            b.step();
            Check.due("a block with a first byte " + first, Check.damage(b, 0, 1 ^ first), 21);
            Check.states("a block with a first byte " + first, b, 0, 0);
        }
        BatchTransfer other = begun(1, 10);
        other.step();
        other.step();
        Check.due("a NAK: the same again", Check.damage(other, 0, Check.NAK_TO_ACK), 1);
        other.step();
        Check.due("an ASK: the same again", Check.damage(other, 0, 6 ^ 67), 1);
        Check.due("its number", other.lineAt(1), 1);
    }

    private static void repeatedBlocks() {
        BatchTransfer x = begun(2, 300);
        Check.steps("block 1", x, 1, 6);
        Check.due("ACK lost: block 1 again", Check.lose(x), 1);
        Check.due("its number", x.lineAt(1), 1);
        Check.due("repeated", x.step(), 6);
        Check.due("kept once", x.size(0), 128);
        Check.due("block 2", x.step(), 1);
        Check.due("its number", x.lineAt(1), 2);
        Check.steps("the rest", x, 6, 1, 6, 4, 6, -1);
        Check.due("all", x.size(0), 384);
        Check.due("byte 128", x.byteAt(0, 128), 128 * 5 & 255);
        BatchTransfer y = begun(3, 300);
        Check.steps("HEAD", y, 1, 6);
        Check.due("ACK lost: HEAD again", Check.lose(y), 1);
        Check.due("repeated", y.step(), 6);
        Check.due("one file", y.received(), 1);
        Check.steps("the rest", y, 1, 6, 1, 6, 1, 6, 4, 6, 1, 6, -1);
        Check.due("all", y.size(0), 300);
    }

    private static void skippedBlocks() {
        BatchTransfer x = begun(1, 300);
        x.step();
        Check.due("block 1 lost", Check.lose(x), 67);
        Check.due("ASK becomes ACK: block 2", Check.damage(x, 0, 67 ^ 6), 1);
        Check.due("its number", x.lineAt(1), 2);
        Check.due("right, but not expected: CAN", x.step(), 24);
        Check.states("CAN", x, 0, 2);
        Check.due("over", x.step(), Check.NONE);
        Check.states("over", x, 2, 2);

        BatchTransfer y = begun(1, 300);
        Check.steps("block 1", y, 1, 6, 1);
        Check.due("block 2 lost", Check.lose(y), 21);
        Check.due("block 3", Check.damage(y, 0, Check.NAK_TO_ACK), 1);
        Check.due("CAN", y.step(), 24);
        Check.due("CAN lost: a miss", Check.lose(y), 1);
        Check.due("the receiver has ended", y.step(), Check.NONE);
        Check.states("the receiver has ended", y, 0, 2);
        Check.due("what was received", y.size(0), 128);

        BatchTransfer z = begun(3, 10);
        z.step();
        Check.due("HEAD lost", Check.lose(z), 67);
        Check.due("block 1 for a HEAD", Check.damage(z, 0, 67 ^ 6), 1);
        Check.due("CAN", z.step(), 24);
        Check.due("no file", z.received(), 0);

        BatchTransfer last = begun(1, 300);
        Check.steps("two blocks", last, 1, 6, 1, 6, 1);
        Check.due("block 3 lost", Check.lose(last), 21);
        Check.due("EOT", Check.damage(last, 0, Check.NAK_TO_ACK), 4);
        Check.steps("done with less", last, 6, -1);
        Check.states("done with less", last, 1, 1);
        Check.due("less", last.size(0), 256);
    }

    private static void repeatedEnds() {
        BatchTransfer x = begun(3, 10, 20);
        Check.steps("file 0", x, 1, 6, 1, 6, 4, 6);
        Check.due("ACK lost: EOT again", Check.lose(x), 4);
        Check.due("a HEAD is expected: ACK", x.step(), 6);
        Check.due("file 0 is as it was", x.size(0), 10);
        Check.steps("the rest", x, 1, 6, 1, 6, 4, 6, 1, 6, -1);
        Check.due("two files", x.received(), 2);
        BatchTransfer y = begun(3, 10);
        Check.steps("file 0", y, 1, 6, 1, 6, 4, 6, 1, 6);
        Check.states("the last HEAD came", y, 0, 1);
        Check.due("its ACK lost", Check.lose(y), 1);
        Check.due("the receiver is done and says nothing", y.step(), Check.NONE);
        Check.states("over", y, 0, 1);
    }

    private static void skippedEnds() {
        // An EOT passed over, its file without a block: the next HEAD is taken for the HEAD again.
        BatchTransfer x = begun(3, 0, 20);
        Check.steps("HEAD", x, 1, 6, 4);
        Check.due("EOT lost", Check.lose(x), 21);
        Check.due("the second HEAD", Check.damage(x, 0, Check.NAK_TO_ACK), 1);
        Check.steps("ACK, and its block", x, 6, 1, 6);
        Check.due("one file", x.received(), 1);
        Check.due("its data are kept there", x.size(0), 128);
        Check.due("of the second file", x.byteAt(0, 0), 50);
        Check.steps("EOT", x, 4, 6);
        Check.due("as many as its HEAD told", x.size(0), 0);
        Check.steps("the last HEAD", x, 1, 6, -1);
        Check.states("done", x, 1, 1);

        BatchTransfer y = begun(3, 10, 20);
        Check.steps("HEAD and block", y, 1, 6, 1, 6, 4);
        Check.due("EOT lost", Check.lose(y), 21);
        Check.due("the second HEAD", Check.damage(y, 0, Check.NAK_TO_ACK), 1);
        Check.due("not expected: CAN", y.step(), 24);

        // The last HEAD, taken for the HEAD again, ends the sender alone.
        BatchTransfer z = begun(3, 0);
        Check.steps("HEAD", z, 1, 6, 4);
        Check.due("EOT lost", Check.lose(z), 21);
        Check.due("the last HEAD", Check.damage(z, 0, Check.NAK_TO_ACK), 1);
        Check.steps("ACK, over", z, 6, -1);
        Check.states("the sender alone is done", z, 1, 0);

        mostThatOneFileCanHold();
    }

    private static void mostThatOneFileCanHold() {
        BatchTransfer x = begun(3, 3000, 2944);
        Check.steps("three large blocks", x, 1, 6, 2, 6, 2, 6, 2, 6, 4);
        int[] skipped = {1, 2, 2};
        for (int next : skipped) {
            Check.due("lost", Check.lose(x), 21);
            Check.due("passed over", Check.damage(x, 0, Check.NAK_TO_ACK), next);
        }
        Check.due("block 2 lost", Check.lose(x), 21);
        Check.due("block 3", Check.damage(x, 0, Check.NAK_TO_ACK), 1);
        Check.due("taken for the one ahead", x.step(), 6);
        for (int i = 4; i <= 9; i++) {
            Check.due("block " + i, x.step(), 1);
            Check.due("its number", x.lineAt(1), i);
            Check.due("ACK", x.step(), 6);
        }
        Check.due("blocks of both", x.size(0), 3072 + 6 * 128);
        Check.due("the last byte is of the second", x.byteAt(0, 3839), 50 + 5 * 2943 & 255);
        Check.steps("EOT", x, 4, 6);
        Check.due("as many as its HEAD told", x.size(0), 3000);
        Check.noByteAt(x, 0, 3000);
        Check.steps("the last HEAD", x, 1, 6, -1);
    }

    private static void earlyEnds() {
        BatchTransfer x = begun(1, 10);
        Check.lose(x);
        Check.due("byte 0 becomes EOT", Check.damage(x, 0, 4), 6);
        Check.states("the receiver is done", x, 0, 1);
        Check.due("an ACK before the ASK", x.step(), 0);
        Check.due("over", x.step(), Check.NONE);
        Check.due("an empty file", x.size(0), 0);
        BatchTransfer y = begun(3, 10);
        Check.lose(y);
        Check.due("byte 0 becomes EOT, a HEAD is expected", Check.damage(y, 0, 4), 6);
        Check.states("that is all", y, 0, 0);
        Check.due("an ACK before the ASK", y.step(), 0);
        Check.due("no HEAD was right yet: ASK", y.step(), 67);
        Check.steps("all", y, 1, 6, 1, 6, 4, 6, 1, 6, -1);
        Check.states("all", y, 1, 1);
        earlyEndsWipeMisses();
    }

    private static void earlyEndsWipeMisses() {
        BatchTransfer x = begun(3, 10);
        Check.lose(x);
        for (int i = 0; i < 3; i++) {
            Check.due("byte 0: a miss", x.step(), 67);
            Check.due("ASK lost", Check.lose(x), 0);
        }
        Check.due("byte 0 becomes EOT", Check.damage(x, 0, 4), 6);
        Check.due("ACK lost", Check.lose(x), 0);
        Check.due("ASK", x.step(), 67);
        Check.due("HEAD", x.step(), 1);
        for (int i = 0; i < 5; i++) {
            Check.due("HEAD lost", Check.lose(x), 67);
            Check.due("HEAD again", x.step(), 1);
        }
        Check.due("HEAD lost", Check.lose(x), 67);
        Check.due("the sender's eleventh miss", x.step(), 24);
        // The receiver's eleventh in all, but its eighth since EOT.
        Check.due("CAN lost", Check.lose(x), 67);
        Check.due("the sender has ended", x.step(), Check.NONE);
        Check.states("the sender gave up, not the receiver", x, 2, 0);
    }

    private static void endedSidesSayNothing() {
        BatchTransfer x = begun(1, 10);
        Check.steps("all but the end", x, 1, 6, 4, 6);
        Check.states("the receiver is done", x, 0, 1);
        Check.due("its ACK lost: EOT again", Check.lose(x), 4);
        Check.due("EOT comes to one that has ended", x.step(), Check.NONE);
        Check.states("over", x, 0, 1);
        Check.due("over: step()", x.step(), Check.NONE);
        BatchTransfer y = begun(1, 10);
        Check.steps("all but the end", y, 1, 6, 4, 6);
        Check.lose(y);
        Check.due("a timeout for one that has ended", Check.lose(y), Check.NONE);
        Check.states("over", y, 0, 1);
        BatchTransfer z = begun(1, 10);
        Check.steps("all but the end", z, 1, 6, 4, 6);
        Check.lose(z);
        Check.due("a CAN for one that is done", Check.damage(z, 0, 4 ^ 24), Check.NONE);
        Check.states("over", z, 0, 1);
    }

    // Promise 12
    private static void statesOfOthers() {
        BatchTransfer x = begun(0, 10);
        for (int side : new int[] {-1, 2, 3, Integer.MIN_VALUE, Integer.MAX_VALUE}) {
            Check.due("state(" + side + ")", x.state(side), Check.NONE);
        }
        Check.steps("all", x, 1, 6, 4, 6, -1);
        Check.states("of the latest session", x, 1, 1);
        x.made(1, 1);
        x.clear();
        Check.states("of the latest session still", x, 1, 1);
        Check.due("state(2)", x.state(2), Check.NONE);
    }
}
