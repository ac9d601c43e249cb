import java.util.Arrays;
import java.util.function.Supplier;

/** One test for each sentence of the document's Terms that names a boundary; the sentence stands above its test. */
public final class TermsEdgesTest {
    private static final int SENDER = 0;
    private static final int RECEIVER = 1;
    private static final int[] ASKS = {21, 67, 67, 67};

    public static void main(String[] args) {
        filesAtMostEight();
        namesOfOneToTwelve();
        bytesUpTo3000();
        firstFileOrAll();
        numbersAreOfEightBits();
        sumsAreOfEightBits();
        crcsFromZeroHighestFirst();
        largeWhenMoreThan896AreLeft();
        whatLacksIs26();
        numberedFromOneOn();
        headsOfAllSizesAndNames();
        lastHeadIsAllZero();
        emptyFilesHaveNoBlocks();
        askOfEachMode();
        sidesThatHaveEndedPutNothing();
        lostIsATimeout();
        failedByCanPutsNothing();
        eleventhMissOfTheWaitingSender();
        eleventhMissOfTheSendingSender();
        eleventhMissOfTheReceiverThatAsks();
        eleventhMissOfTheReceiverBehindABlock();
        missesAreOfEachSide();
        senderBeforeItsFirstUnit();
        senderThen();
        behindTheLastUnit();
        firstNumberExpected();
        rightBlocksAlone();
        rightBlocksWipeMisses();
        headWithoutAName();
        numberAheadOfTheExpected();
        numberAheadWithNoneRightBefore();
        anyOtherRightBlock();
        endWhenAHeadIsExpected();
        endOfAFile();
        atMostAsManyAsItsHeadTold();
        receiverHearsAnyByte();
        askOrNak();
        digitsOfHeads();
        Check.finish();
    }

    private static BatchTransfer begun(int mode, int... sizes) {
        BatchTransfer x = new BatchTransfer();
        for (int size : sizes) {
            x.made(size, 1);
        }
        Check.due("begin(" + mode + ")", x.begin(mode), true);
        return x;
    }

    private static BatchTransfer begunWith(int mode, String name, int... bytes) {
        BatchTransfer x = new BatchTransfer();
        Check.tape(x, Check.tapeOf(name, bytes));
        Check.due("file()", x.file(), 0);
        Check.due("begin(" + mode + ")", x.begin(mode), true);
        return x;
    }

    private static BatchTransfer stepped(BatchTransfer x, int steps) {
        for (int i = 0; i < steps; i++) {
            x.step();
        }
        return x;
    }

    private static int[] filled(int n, int value) {
        int[] all = new int[n];
        Arrays.fill(all, value);
        return all;
    }

    // FILES, at most 8
    private static void filesAtMostEight() {
        BatchTransfer x = new BatchTransfer();
        for (int f = 0; f < 8; f++) {
            Check.due("file " + f, x.made(f, f), f);
        }
        Check.due("a ninth", x.made(1, 1), Check.NONE);
        x.begin(3);
        stepped(x, 2 * (8 * 2 + 7) + 1);
        Check.due("the last HEAD behind eight", x.lineAt(3), 0);
        Check.steps("the end", x, 6, -1);
        Check.due("eight arrive", x.received(), 8);
        for (int f = 0; f < 8; f++) {
            Check.due("size(" + f + ")", x.size(f), f);
        }
    }

    // have a name (1 to 12 bytes, none 0)
    private static void namesOfOneToTwelve() {
        String longest = "ABCDEFGHIJKL";
        for (int n = 1; n <= 12; n++) {
            String name = longest.substring(0, n);
            Check.arrived("a name of " + n, () -> stepped(begunWith(3, name, 5), 9), 0, name, new int[] {5});
        }
        for (int value = 1; value < 256; value++) {
            BatchTransfer x = stepped(begunWith(3, String.valueOf((char) value), 5), 2);
            Check.due("a name of byte " + value, x.nameAt(0, 0), value);
            Check.due("and no more", x.nameAt(0, 1), Check.NONE);
        }
        BatchTransfer x = new BatchTransfer();
        Check.tape(x, Check.tapeOf("ABCDEFGHIJKLM"));
        Check.due("a name of 13", x.file(), Check.NONE);
        Check.due("no byte counts", x.end(0), true);
        Check.tape(x, Check.tapeOf(""));
        Check.due("a name of 0", x.file(), Check.NONE);
    }

    // and 0 to 3000 bytes
    private static void bytesUpTo3000() {
        for (int n : new int[] {0, 1, 2999, 3000}) {
            for (String name : new String[] {"a", "ABCDEFGHIJKL"}) {
                BatchTransfer x = begunWith(3, name, Check.madeBytes(n, 3));
                while (x.step() != Check.NONE) {
                    continue;
                }
                Check.due("a file of " + n, x.size(0), n);
                Check.noByteAt(x, 0, n);
            }
        }
        BatchTransfer x = new BatchTransfer();
        Check.tape(x, Check.tapeOf("a", new int[3001]));
        Check.due("a file of 3001", x.file(), Check.NONE);
        Check.due("one byte less", x.end(3002), true);
        Check.due("a file of 3000", x.file(), 0);
    }

    // the first file; 3 as 2, all files
    private static void firstFileOrAll() {
        for (int mode = 0; mode < 4; mode++) {
            BatchTransfer x = begun(mode, 5, 6, 7);
            while (x.step() != Check.NONE) {
                continue;
            }
            Check.states("mode " + mode, x, 1, 1);
            Check.due("mode " + mode, x.received(), mode == 3 ? 3 : 1);
            Check.due("size(0)", x.size(0), mode == 3 ? 5 : 128);
            Check.due("size(1)", x.size(1), mode == 3 ? 6 : Check.NONE);
        }
        BatchTransfer different = new BatchTransfer();
        for (int f = 0; f < 8; f++) {
            different.made(f + 1, 40 * f);
        }
        different.begin(3);
        stepped(different, 2 * 8 * 3 + 3);
        Check.states("eight different files", different, 1, 1);
        for (int f = 0; f < 8; f++) {
            for (int i = 0; i <= f; i++) {
                Check.due("byteAt(" + f + ", " + i + ")", different.byteAt(f, i), 40 * f + 5 * i & 255);
            }
        }
    }

    // its NUMBER (8 bits), 255 less that: no file has more than 24 blocks, so none can pass 255
    private static void numbersAreOfEightBits() {
        BatchTransfer x = begun(3, 2944, 0);
        Check.steps("HEAD", x, 1);
        Check.due("number 0", x.lineAt(1), 0);
        Check.due("255 less 0", x.lineAt(2), 255);
        BatchTransfer y = stepped(begun(1, 3000), 2 * 23 + 1);
        Check.due("number 24", y.lineAt(1), 24);
        Check.due("255 less 24", y.lineAt(2), 231);
        Check.steps("the last block", y, 6, 4, 6, -1);
        Check.due("24 blocks", y.size(0), 24 * 128);
    }

    // mode 0 the data's sum (8 bits)
    private static void sumsAreOfEightBits() {
        int[][] rows = {{255, 128, 128}, {2, 128, 0}, {1, 128, 128}, {0, 128, 0}, {128, 127, 154}, {200, 1, 174}};
        for (int[] row : rows) {
            String what = row[1] + " bytes " + row[0];
            BatchTransfer x = begunWith(0, "s", filled(row[1], row[0]));
            Check.steps(what, x, 1);
            Check.due(what + ": line()", x.line(), 132);
            Check.due(what + ": the sum", x.lineAt(131), row[2]);
            Check.steps(what, x, 6);
        }
    }

    // else their CRC (two bytes, the highest first): from 0 on
    private static void crcsFromZeroHighestFirst() {
        int[] oneAtTheEnd = new int[128];
        oneAtTheEnd[127] = 1;
        int[] highest = new int[128];
        highest[127] = 128;
        int[] twoBytes = new int[128];
        twoBytes[126] = 1;
        int[][] datas = {new int[128], oneAtTheEnd, highest, twoBytes, filled(128, 255)};
        int[] crcs = {0, 0x1021, 0x9188, 0x3331, Check.crc(filled(128, 255))};
        for (int mode = 1; mode < 4; mode++) {
            for (int i = 0; i < datas.length; i++) {
                BatchTransfer x = stepped(begunWith(mode, "c", datas[i]), mode == 3 ? 3 : 1);
                Check.due("data " + i + ": line()", x.line(), 133);
                Check.due("data " + i + ": the highest", x.lineAt(131), crcs[i] >> 8);
                Check.due("data " + i + ": the lowest", x.lineAt(132), crcs[i] & 255);
                Check.steps("data " + i, x, 6);
            }
        }
    }

    // In modes 2 and 3 it has 1024 bytes when more than 896 are left
    private static void largeWhenMoreThan896AreLeft() {
        for (int n : new int[] {895, 896, 897, 898, 1023, 1024}) {
            for (int mode = 0; mode < 4; mode++) {
                BatchTransfer x = stepped(begun(mode, n), mode == 3 ? 2 : 0);
                boolean large = mode > 1 && n > 896;
                String what = "mode " + mode + ", " + n + " left";
                Check.due(what, x.step(), large ? 2 : 1);
                Check.due(what + ": line()", x.line(), large ? 1029 : mode == 0 ? 132 : 133);
                Check.steps(what, x, 6);
                Check.due(what + ": size(0)", x.size(0), large ? 1024 : 128);
            }
        }
        for (int n : new int[] {896, 897}) {
            BatchTransfer second = begun(2, 1024 + n);
            Check.steps(n + " left behind a large one", second, 2, 6, n > 896 ? 2 : 1);
            BatchTransfer third = begun(2, 2048 + n);
            Check.steps(n + " left behind two large ones", third, 2, 6, 2, 6, n > 896 ? 2 : 1);
        }
    }

    // What lacks at the end is 26
    private static void whatLacksIs26() {
        int[][] rows = {{1, 128}, {127, 128}, {128, 128}, {129, 256}, {897, 1024}, {1023, 1024}, {1024, 1024}};
        for (int[] row : rows) {
            Check.arrived(row[0] + " bytes", () -> stepped(begun(2, row[0]), 40), 0, "",
                Check.padded(Check.madeBytes(row[0], 1), row[1]));
        }
    }

    // A file's blocks are numbered from 1 on
    private static void numberedFromOneOn() {
        BatchTransfer x = begun(3, 256, 129);
        int[] numbers = {0, 1, 2, -1, 0, 1, 2, -1, 0};
        for (int number : numbers) {
            x.step();
            Check.due("a block or EOT", x.line(), number < 0 ? 1 : 133);
            if (number >= 0) {
                Check.due("its number", x.lineAt(1), number);
            }
            Check.steps("ACK", x, 6);
        }
        Check.steps("the end", x, -1);
    }

    // A HEAD is a block of 128 with number 0: the name, 0, the number of the file's bytes in decimal digits, 0s to the end
    private static void headsOfAllSizesAndNames() {
        for (int n : new int[] {0, 1, 9, 10, 99, 100, 999, 1000, 2999, 3000}) {
            Supplier<BatchTransfer> run = () -> stepped(begun(3, n), 1);
            Check.onLine("HEAD of " + n, run, Check.head("f", n));
        }
        int[] bytes = Check.madeBytes(3000, 1);
        Check.onLine("the longest HEAD", () -> stepped(begunWith(3, "ABCDEFGHIJKL", bytes), 1),
            Check.head("ABCDEFGHIJKL", 3000));
        Check.onLine("a name of digits", () -> stepped(begunWith(3, "9876", 1, 2), 1), Check.head("9876", 2));
    }

    // the last HEAD, behind all files, is all 0
    private static void lastHeadIsAllZero() {
        Check.onLine("behind one file", () -> stepped(begun(3, 0), 5), Check.head("", 0));
        Check.onLine("behind two files", () -> stepped(begun(3, 0, 128), 11), Check.head("", 0));
        Check.onLine("behind eight files", () -> stepped(begun(3, 0, 0, 0, 0, 0, 0, 0, 0), 33), Check.head("", 0));
    }

    // THE UNITS: of each file (in mode 3 its HEAD,) its blocks, EOT
    private static void emptyFilesHaveNoBlocks() {
        for (int mode = 0; mode < 3; mode++) {
            BatchTransfer x = begun(mode, 0, 5);
            Check.steps("mode " + mode, x, 4, 6, -1);
            Check.states("mode " + mode, x, 1, 1);
            Check.due("an empty file", x.size(0), 0);
        }
        BatchTransfer x = begun(3, 0, 0);
        Check.steps("HEAD, EOT, HEAD, EOT, the last HEAD", x, 1, 6, 4, 6, 1, 6, 4, 6, 1, 6, -1);
        Check.due("two empty files", x.received(), 2);
        Check.due("size(1)", x.size(1), 0);
    }

    // the ASK is NAK in mode 0, else 67; at first, put there by the receiver, the ASK
    private static void askOfEachMode() {
        for (int mode = 0; mode < 4; mode++) {
            BatchTransfer x = begun(mode, 5);
            Check.due("line()", x.line(), 1);
            Check.due("the ASK of mode " + mode, x.lineAt(0), ASKS[mode]);
            Check.due("put by the receiver: the sender hears it", x.step(), 1);
        }
        BatchTransfer sums = begun(0, 5);
        Check.due("67 is no ASK of mode 0", Check.damage(sums, 0, 21 ^ 67), 0);
        BatchTransfer crcs = begun(1, 5);
        Check.due("NAK is no ASK of mode 1", Check.damage(crcs, 0, 21 ^ 67), 0);
    }

    // A side that has ended puts nothing there
    private static void sidesThatHaveEndedPutNothing() {
        BatchTransfer done = begun(1, 0);
        Check.steps("EOT, ACK", done, 4, 6);
        Check.due("ACK lost: EOT again", Check.lose(done), 4);
        Check.due("to a receiver that is done", done.step(), Check.NONE);
        Check.states("done", done, 0, 1);
        Check.due("nothing is on the line", done.line(), 0);

        BatchTransfer failed = begun(1, 300);
        failed.step();
        Check.due("block 1 lost", Check.lose(failed), 67);
        Check.due("passed over", Check.damage(failed, 0, 67 ^ 6), 1);
        Check.steps("the receiver gives up", failed, 24);
        Check.due("CAN damaged: block 2 again", Check.damage(failed, 0, 1), 1);
        Check.due("to a receiver that has failed", failed.step(), Check.NONE);
        Check.states("failed", failed, 0, 2);

        BatchTransfer sender = missesToEleven(begun(1, 5));
        Check.due("the sender's CAN lost: a miss", Check.lose(sender), 24);
        Check.due("to a sender that has failed", sender.step(), Check.NONE);
        Check.states("both", sender, 2, 2);
    }

    /** Both sides lose all, until the sender, whose turn is first, has put its CAN there. */
    private static BatchTransfer missesToEleven(BatchTransfer x) {
        for (int i = 0; i < 10; i++) {
            Check.lose(x);
            Check.lose(x);
        }
        Check.due("the sender's eleventh", Check.lose(x), 24);
        return x;
    }

    // One that is lost is a TIMEOUT for that side
    private static void lostIsATimeout() {
        BatchTransfer x = begun(3, 5);
        Check.due("the sender waits: byte 0", Check.lose(x), 0);
        Check.due("the receiver: the ASK", Check.lose(x), 67);
        Check.steps("HEAD", x, 1, 6);
        Check.due("the sender: the same unit", Check.lose(x), 1);
        Check.due("number 0", x.lineAt(1), 0);
        Check.due("the receiver: NAK", Check.lose(x), 21);
        Check.states("both at work", x, 0, 0);
        Check.steps("the rest", x, 1, 6, 1, 6, 4, 6, 1, 6, -1);
    }

    // what fails by a CAN puts nothing there
    private static void failedByCanPutsNothing() {
        BatchTransfer waiting = begun(1, 5);
        Check.due("the waiting sender", Check.damage(waiting, 0, 67 ^ 24), Check.NONE);
        Check.states("the waiting sender", waiting, 2, 0);
        BatchTransfer sending = stepped(begun(1, 5), 2);
        Check.due("the sending sender", Check.damage(sending, 0, 6 ^ 24), Check.NONE);
        Check.states("the sending sender", sending, 2, 0);
        BatchTransfer early = begun(1, 5);
        Check.lose(early);
        Check.due("the asking receiver", Check.damage(early, 0, 24), Check.NONE);
        Check.states("the asking receiver", early, 0, 2);
        BatchTransfer late = stepped(begun(1, 5), 3);
        Check.due("the receiver at EOT", Check.damage(late, 0, 4 ^ 24), Check.NONE);
        Check.states("the receiver at EOT", late, 0, 2);
        for (BatchTransfer x : new BatchTransfer[] {waiting, sending, early, late}) {
            Check.due("nothing on the line", x.line(), 0);
            Check.noLineAt(x, 0);
        }
    }

    // the eleventh one puts CAN there, and the side has failed (a sender that waits, by timeouts and by wrong bytes)
    private static void eleventhMissOfTheWaitingSender() {
        for (int kind = 0; kind < 3; kind++) {
            BatchTransfer x = begun(2, 5);
            for (int i = 1; i <= 11; i++) {
                Check.due("at work before miss " + i, x.state(SENDER), 0);
                boolean timeout = kind == 0 || kind == 2 && i % 2 == 0;
                Check.due("miss " + i, timeout ? Check.lose(x) : Check.damage(x, 0, 1), i < 11 ? 0 : 24);
                if (i < 11) {
                    Check.due("byte 0: the receiver's miss " + i, x.step(), 67);
                }
            }
            Check.states("the eleventh", x, 2, 0);
            Check.due("CAN alone", x.line(), 1);
            Check.due("CAN comes", x.step(), Check.NONE);
            Check.states("CAN comes", x, 2, 2);
        }
    }

    private static void eleventhMissOfTheSendingSender() {
        for (int steps = 2; steps <= 8; steps += 2) {
            BatchTransfer x = stepped(begun(3, 5), steps);
            int unit = steps == 6 ? 4 : 1;
            for (int i = 1; i <= 11; i++) {
                Check.due("at work before miss " + i, x.state(SENDER), 0);
                int got = i % 2 == 0 ? Check.lose(x) : Check.damage(x, 0, Check.NAK_TO_ACK);
                Check.due("unit " + steps / 2 + ", miss " + i, got, i < 11 ? unit : 24);
                if (i < 11 && steps < 8) {
                    Check.due("ACK again", x.step(), 6);
                } else if (i < 11) {
                    // The receiver is done with the last HEAD and answers no more.
                    Check.due("no answer", x.step(), Check.NONE);
                    break;
                }
            }
            Check.states("unit " + steps / 2, x, steps < 8 ? 2 : 0, steps < 8 ? 0 : 1);
        }
    }

    private static void eleventhMissOfTheReceiverThatAsks() {
        for (int mode = 0; mode < 4; mode++) {
            BatchTransfer x = begun(mode, 5);
            for (int i = 1; i <= 11; i++) {
                Check.due("the unit", x.step(), 1);
                int got = i % 2 == 0 ? Check.lose(x) : Check.damage(x, i * 11, 1 << i % 8);
                Check.due("mode " + mode + ", miss " + i, got, i < 11 ? ASKS[mode] : 24);
                Check.due("state(1)", x.state(RECEIVER), i < 11 ? 0 : 2);
            }
            Check.due("the sender bore ten", x.state(SENDER), 0);
            Check.due("CAN comes", x.step(), Check.NONE);
            Check.states("CAN comes", x, 2, 2);
        }
    }

    private static void eleventhMissOfTheReceiverBehindABlock() {
        for (int mode = 0; mode < 4; mode++) {
            BatchTransfer x = stepped(begun(mode, 200), 2);
            Check.due("the second unit", x.step(), 1);
            for (int i = 1; i <= 11; i++) {
                Check.due("mode " + mode + ", miss " + i, Check.lose(x), i < 11 ? 21 : 24);
                Check.due("state(1)", x.state(RECEIVER), i < 11 ? 0 : 2);
                if (i < 11) {
                    Check.due("the same unit", x.step(), 1);
                }
            }
            Check.due("CAN lost: the sender's eleventh", Check.lose(x), 24);
            Check.states("both", x, 2, 2);
            Check.due("nobody hears", x.step(), Check.NONE);
        }
    }

    // MISSES are counted by each side
    private static void missesAreOfEachSide() {
        BatchTransfer x = begun(1, 5);
        for (int i = 0; i < 10; i++) {
            Check.due("the sender's miss", Check.lose(x), 0);
            Check.due("the receiver's miss", Check.lose(x), 67);
        }
        Check.states("ten each", x, 0, 0);
        Check.steps("all gets through", x, 1, 6, 4, 6, -1);
        Check.states("all gets through", x, 1, 1);
    }

    // before its first unit: the ASK: it sends that; CAN: failed; all else: a miss: it puts byte 0 there
    private static void senderBeforeItsFirstUnit() {
        for (int mode = 0; mode < 4; mode++) {
            for (int heard = 0; heard < 256; heard++) {
                BatchTransfer x = begun(mode, 5);
                if (heard != ASKS[mode]) {
                    x.spoil(0, ASKS[mode] ^ heard);
                }
                int want = heard == ASKS[mode] ? 1 : heard == 24 ? Check.NONE : 0;
                Check.due("mode " + mode + ": waiting, the sender hears " + heard, x.step(), want);
                Check.due("state(0)", x.state(SENDER), heard == 24 ? 2 : 0);
                Check.due("line()", x.line(), want == 1 ? mode == 0 ? 132 : 133 : want + 1);
            }
        }
    }

    // Then: ACK: the next unit; CAN: failed; all else: a miss: the same unit again
    private static void senderThen() {
        for (int heard = 0; heard < 256; heard++) {
            BatchTransfer x = stepped(begun(1, 200), 2);
            if (heard != 6) {
                x.spoil(0, 6 ^ heard);
            }
            Check.due("the sender hears " + heard, x.step(), heard == 24 ? Check.NONE : 1);
            Check.due("state(0)", x.state(SENDER), heard == 24 ? 2 : 0);
            if (heard != 24) {
                Check.due("the unit behind " + heard, x.lineAt(1), heard == 6 ? 2 : 1);
            }
        }
    }

    // the next unit (behind the last: done, nothing put)
    private static void behindTheLastUnit() {
        int[] steps = {4, 4, 4, 8};
        for (int mode = 0; mode < 4; mode++) {
            BatchTransfer x = stepped(begun(mode, 5), steps[mode]);
            Check.due("the last ACK", x.lineAt(0), 6);
            Check.states("before it comes", x, 0, 1);
            Check.due("it comes", x.step(), Check.NONE);
            Check.states("behind it", x, 1, 1);
            Check.due("nothing put", x.line(), 0);
            Check.due("no session is on", x.step(), Check.NONE);
        }
    }

    // it EXPECTS a number: 1 at first (mode 3: 0, a HEAD)
    private static void firstNumberExpected() {
        BatchTransfer one = begun(1, 5);
        Check.steps("number 1", one, 1, 6);
        Check.due("its data are kept", one.size(0), 128);
        BatchTransfer head = begun(3, 5);
        Check.steps("number 0", head, 1, 6);
        Check.due("its file has begun", head.size(0), 0);
        BatchTransfer none = begun(3, 5);
        none.step();
        Check.due("HEAD lost", Check.lose(none), 67);
        Check.due("passed over: block 1", Check.damage(none, 0, 67 ^ 6), 1);
        Check.due("number 1 for a HEAD", none.step(), 24);
        Check.due("no file", none.received(), 0);
    }

    // A block is RIGHT when it has its length, numbers and check
    private static void rightBlocksAlone() {
        for (int mode = 0; mode < 4; mode++) {
            int length = mode == 0 ? 132 : mode == 2 ? 1029 : 133;
            int[] places = {0, 1, 2, 3, 130, length - 2, length - 1};
            for (int at : places) {
                for (int mask = 1; mask < 256; mask++) {
                    BatchTransfer x = stepped(begun(mode, 1000), 1);
                    Check.due("mode " + mode + ", byte " + at + " by " + mask, Check.damage(x, at, mask), ASKS[mode]);
                    Check.due("received()", x.received(), mode == 3 ? 0 : 1);
                    Check.due("size(0)", x.size(0), mode == 3 ? Check.NONE : 0);
                }
            }
        }
    }

    // A right one with the number expected: no misses any more
    private static void rightBlocksWipeMisses() {
        BatchTransfer x = begun(3, 129);
        x.step();
        int[] units = {1, 1, 1, 4, 1};
        for (int k = 0; k < units.length; k++) {
            for (int i = 0; i < 10; i++) {
                Check.due("unit " + k + " lost", Check.lose(x), k == 0 ? 67 : 21);
                Check.due("again", x.step(), units[k]);
            }
            Check.steps("unit " + k, x, 6, k + 1 < units.length ? units[k + 1] : Check.NONE);
        }
        Check.states("all", x, 1, 1);
        Check.due("all", x.size(0), 129);
    }

    // a HEAD with a name: a file of it begins, 1 is expected; one without: ACK, done
    private static void headWithoutAName() {
        BatchTransfer x = stepped(begun(3, 0), 5);
        Check.states("the last HEAD on the line", x, 0, 0);
        Check.due("ACK", x.step(), 6);
        Check.states("the receiver is done", x, 0, 1);
        Check.due("it begins no file", x.received(), 1);
        BatchTransfer early = begun(3, 0, 5);
        Check.steps("HEAD", early, 1, 6, 4, 6, 1);
        Check.due("the second HEAD lost", Check.lose(early), 21);
        Check.due("passed over: block 1", Check.damage(early, 0, Check.NAK_TO_ACK), 1);
        Check.due("1 isn't expected", early.step(), 24);
    }

    // A right one with the number ahead of that, if any block or HEAD was right before: ACK, no misses any more
    private static void numberAheadOfTheExpected() {
        for (int mode = 0; mode < 4; mode++) {
            BatchTransfer x = stepped(begun(mode, 200), 2);
            int number = mode == 3 ? 0 : 1;
            int size = x.size(0);
            Check.due("ACK lost", Check.lose(x), 1);
            for (int round = 0; round < 2; round++) {
                for (int i = 0; i < 4; i++) {
                    Check.due("a miss of the receiver", Check.lose(x), 21);
                    Check.due("the unit again", x.step(), 1);
                    Check.due("its number", x.lineAt(1), number);
                }
                Check.due("ACK of the one ahead", x.step(), 6);
                Check.due("nothing is kept twice", x.size(0), size);
                if (round == 0) {
                    Check.due("ACK lost", Check.lose(x), 1);
                }
            }
            Check.due("the next unit", x.step(), 1);
            Check.due("its number", x.lineAt(1), number + 1);
            for (int i = 0; i < 10; i++) {
                Check.due("ten misses since", Check.lose(x), 21);
                Check.due("the unit again", x.step(), 1);
            }
            Check.due("right", x.step(), 6);
            Check.due("kept", x.size(0), size + 128);
        }
    }

    // if any block or HEAD was right before (of this file, its HEAD too): at a file's beginning none is ahead
    private static void numberAheadWithNoneRightBefore() {
        // A HEAD is expected behind EOT: the file's last block is not "ahead" of it.
        BatchTransfer x = begun(3, 5, 6);
        Check.steps("file 0", x, 1, 6, 1, 6, 4, 6, 1);
        Check.due("the second HEAD lost", Check.lose(x), 21);
        Check.due("passed over: its block 1", Check.damage(x, 0, Check.NAK_TO_ACK), 1);
        Check.due("not ahead of 0", x.step(), 24);
        Check.states("CAN", x, 0, 2);
        // The HEAD counts as right before: number 0 is ahead of 1.
        BatchTransfer y = begun(3, 5, 6);
        Check.steps("file 0 and HEAD 1", y, 1, 6, 1, 6, 4, 6, 1, 6);
        Check.due("ACK lost: HEAD 1 again", Check.lose(y), 1);
        Check.due("ahead of 1", y.step(), 6);
        Check.due("begun once", y.received(), 2);
    }

    // Any other right one: CAN, failed
    private static void anyOtherRightBlock() {
        for (int mode = 0; mode < 3; mode++) {
            BatchTransfer ahead = stepped(begun(mode, 600), 1);
            Check.due("block 1 lost", Check.lose(ahead), ASKS[mode]);
            Check.due("passed over", Check.damage(ahead, 0, ASKS[mode] ^ 6), 1);
            Check.due("2 for 1", ahead.step(), 24);
            Check.states("2 for 1", ahead, 0, 2);
            Check.due("nothing is kept", ahead.size(0), 0);
            Check.due("CAN comes", ahead.step(), Check.NONE);
            Check.states("CAN comes", ahead, 2, 2);
        }
        BatchTransfer behind = begun(3, 200, 5);
        Check.steps("HEAD and blocks", behind, 1, 6, 1, 6, 1, 6, 4);
        Check.due("EOT lost", Check.lose(behind), 21);
        Check.due("passed over: a HEAD", Check.damage(behind, 0, Check.NAK_TO_ACK), 1);
        Check.due("0 for 3", behind.step(), 24);
        Check.states("0 for 3", behind, 0, 2);
        Check.due("one file", behind.received(), 1);
        Check.due("it isn't at its end", behind.size(0), 256);
    }

    // EOT: no misses any more, ACK; when a HEAD is expected that is all
    private static void endWhenAHeadIsExpected() {
        BatchTransfer first = begun(3, 5);
        Check.lose(first);
        Check.due("EOT before any HEAD", Check.damage(first, 0, 4), 6);
        Check.states("that is all", first, 0, 0);
        Check.due("no file", first.received(), 0);
        Check.steps("ACK for the ASK: byte 0, the ASK, HEAD", first, 0, 67, 1, 6);
        BatchTransfer x = stepped(begun(3, 5), 6);
        Check.due("EOT again", Check.lose(x), 4);
        for (int i = 0; i < 4; i++) {
            Check.due("EOT lost", Check.lose(x), 21);
            Check.due("EOT again", x.step(), 4);
        }
        Check.due("EOT when a HEAD is expected", x.step(), 6);
        Check.due("the file is as it was", x.size(0), 5);
        Check.due("the last HEAD", x.step(), 1);
        for (int i = 0; i < 10; i++) {
            Check.due("ten misses since", Check.lose(x), 21);
            Check.due("the last HEAD again", x.step(), 1);
        }
        Check.steps("the end", x, 6, -1);
    }

    // else the file is at its end, and modes 0 to 2 are done; in mode 3 a HEAD is expected
    private static void endOfAFile() {
        for (int mode = 0; mode < 3; mode++) {
            BatchTransfer x = stepped(begun(mode, 5), 3);
            Check.due("before EOT", x.state(RECEIVER), 0);
            Check.due("EOT", x.step(), 6);
            Check.due("behind EOT", x.state(RECEIVER), 1);
            Check.due("all its bytes stay", x.size(0), 128);
            BatchTransfer early = begun(mode, 5);
            Check.lose(early);
            Check.due("EOT before any block", Check.damage(early, 0, 4), 6);
            Check.states("done without bytes", early, 0, 1);
            Check.due("done without bytes", early.size(0), 0);
        }
        BatchTransfer x = stepped(begun(3, 5, 6), 5);
        Check.due("EOT", x.step(), 6);
        Check.due("at work", x.state(RECEIVER), 0);
        Check.steps("a HEAD is expected", x, 1, 6);
        Check.due("the second file", x.received(), 2);
    }

    // (in mode 3 it has at most as many bytes as its HEAD told)
    private static void atMostAsManyAsItsHeadTold() {
        for (int n : new int[] {1, 127, 128, 129, 1000, 1024, 3000}) {
            BatchTransfer x = begun(3, n);
            int padded = 0;
            for (int first = x.step(); first != 4; first = x.step()) {
                padded = Math.max(padded, x.size(0));
            }
            Check.due(n + " bytes before EOT", x.size(0), padded);
            Check.due(n + " bytes are filled up", padded >= n && padded % 128 == 0, true);
            Check.steps("EOT", x, 6);
            Check.due(n + " bytes behind EOT", x.size(0), n);
        }
        BatchTransfer less = begun(3, 200);
        Check.steps("HEAD and block 1", less, 1, 6, 1, 6, 1);
        Check.due("block 2 lost", Check.lose(less), 21);
        Check.due("passed over: EOT", Check.damage(less, 0, Check.NAK_TO_ACK), 4);
        Check.steps("EOT", less, 6);
        Check.due("less than its HEAD told", less.size(0), 128);
        Check.noByteAt(less, 0, 128);
        BatchTransfer none = begun(3, 200, 5);
        Check.steps("HEAD", none, 1, 6, 1);
        Check.due("block 1 lost", Check.lose(none), 21);
        Check.due("passed over: block 2", Check.damage(none, 0, Check.NAK_TO_ACK), 1);
        Check.due("2 for 1", none.step(), 24);
    }

    // EOT, CAN; All else, and a timeout: a miss
    private static void receiverHearsAnyByte() {
        for (int heard = 0; heard < 256; heard++) {
            BatchTransfer early = begun(1, 5);
            Check.lose(early);
            if (heard != 0) {
                early.spoil(0, heard);
            }
            Check.due("asking, the receiver hears " + heard, early.step(), heard == 4 ? 6 : heard == 24 ? -1 : 67);
            Check.due("state(1)", early.state(RECEIVER), heard == 4 ? 1 : heard == 24 ? 2 : 0);
            BatchTransfer late = stepped(begun(1, 5), 3);
            if (heard != 4) {
                late.spoil(0, 4 ^ heard);
            }
            Check.due("behind a block, the receiver hears " + heard, late.step(), heard == 4 ? 6 : heard == 24 ? -1 : 21);
            Check.due("state(1)", late.state(RECEIVER), heard == 4 ? 1 : heard == 24 ? 2 : 0);
        }
    }

    // the ASK when no block or HEAD was right yet, else NAK
    private static void askOrNak() {
        for (int mode = 0; mode < 4; mode++) {
            BatchTransfer x = begun(mode, 300);
            Check.lose(x);
            Check.due("byte 0: the ASK", x.step(), ASKS[mode]);
            x.step();
            Check.due("the first unit lost: the ASK", Check.lose(x), ASKS[mode]);
            Check.steps("it comes again", x, 1, 6, 1);
            Check.due("the second lost: NAK", Check.lose(x), 21);
        }
        BatchTransfer empty = begun(3, 0, 0);
        Check.steps("HEAD", empty, 1, 6, 4);
        Check.due("behind a HEAD alone: NAK", Check.lose(empty), 21);
        Check.steps("EOT", empty, 4, 6, 1);
        Check.due("the second HEAD: NAK", Check.lose(empty), 21);
        BatchTransfer nothing = begun(1, 0);
        nothing.step();
        Check.due("EOT of an empty file lost: the ASK", Check.lose(nothing), 67);
    }

    // A HEAD's digits (at most 6, up to what is none) are its file's number of bytes
    private static void digitsOfHeads() {
        for (int n : new int[] {0, 9, 10, 99, 100, 999, 1000, 3000}) {
            for (String name : new String[] {"7", "123456789012", "0", "a1"}) {
                BatchTransfer x = begunWith(3, name, Check.madeBytes(n, 1));
                while (x.step() != Check.NONE) {
                    continue;
                }
                Check.due(name + " of " + n, x.size(0), n);
            }
        }
    }
}
