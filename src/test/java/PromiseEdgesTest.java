/** One test for each sentence of promises 1 to 16 that names a boundary; the sentence stands above its test. */
public final class PromiseEdgesTest {
    private static final int LEAST = Integer.MIN_VALUE;
    private static final int MOST = Integer.MAX_VALUE;

    public static void main(String[] args) {
        newObjectHasNothing();
        feedOfTheOutermostNumbers();
        feedBeyondTheTape();
        feedRefusedChangesNothing();
        endBeyondTheTape();
        endBelowZero();
        endRefusedChangesNothing();
        endOfNothingAndOfAll();
        fileOfEachEdge();
        fileThatIsNone();
        fileThatIsNoneChangesNothing();
        fileWhenEightAreThere();
        fileWhenASessionIsOn();
        madeOfEachEdge();
        madeBeyondItsEdges();
        madeSeedsWrapAround();
        madeWhenEightAreThere();
        madeWhenASessionIsOn();
        clearOfNone();
        clearWhenASessionIsOn();
        beginWithoutFiles();
        beginWithoutSuchAMode();
        beginEndsTheOneThatWasOn();
        beginTakesWhatWasReceived();
        spoilOfNoBits();
        spoilOfHigherBitsToo();
        spoilOfPlacesOutside();
        spoilTheLatestTelling();
        spoilTheNextStepAlone();
        stepWithoutASession();
        stepThatEndsASession();
        stepTellsTheByteBeforeDamage();
        lineOfEachLength();
        lineAtItsEdges();
        stateBeforeAnySession();
        stateOfOthers();
        stateOfOneThatIsOver();
        receivedFromTheBeginning();
        receivedCountsBegunFiles();
        sizeOfNone();
        sizeSoFar();
        byteAtItsEdges();
        byteAtOfAllValues();
        nameAtItsEdges();
        Check.finish();
    }

    private static BatchTransfer begun(int mode, int... sizes) {
        BatchTransfer x = new BatchTransfer();
        for (int size : sizes) {
            x.made(size, 1);
        }
        Check.due("begin(" + mode + ")", x.begin(mode), true);
        return x;
    }

    private static BatchTransfer stepped(BatchTransfer x, int steps) {
        for (int i = 0; i < steps; i++) {
            x.step();
        }
        return x;
    }

    private static void toTheEnd(BatchTransfer x) {
        for (int i = 0; i < 250 && x.step() != Check.NONE; i++) {
            continue;
        }
        Check.states("to the end", x, 1, 1);
    }

    // 1: No files, no session; the tape is empty.
    private static void newObjectHasNothing() {
        for (int mode = 0; mode < 4; mode++) {
            BatchTransfer x = new BatchTransfer();
            Check.due("no files", x.begin(mode), false);
            Check.due("no session", x.line(), 0);
            Check.due("no session", x.step(), Check.NONE);
        }
        BatchTransfer x = new BatchTransfer();
        Check.due("the tape is empty", x.end(1), false);
        Check.due("155 times twenty bytes fit", fedUntilRefused(x), 155);
        BatchTransfer other = new BatchTransfer();
        Check.due("an object of its own", other.end(1), false);
    }

    private static int fedUntilRefused(BatchTransfer x) {
        int n = 0;
        while (n < 200 && x.feed(-1, -1, -1, -1, -1)) {
            n++;
        }
        return n;
    }

    // 2: Appends twenty bytes to the tape, of each number the highest first
    private static void feedOfTheOutermostNumbers() {
        BatchTransfer x = new BatchTransfer();
        Check.due("feed", x.feed(0x7A000000, LEAST, MOST, -1, 0x01020304), true);
        Check.due("twenty", x.end(21), false);
        Check.due("file()", x.file(), 0);
        x.begin(3);
        toTheEnd(x);
        int[] want = {0, 0, 128, 0, 0, 0, 127, 255, 255, 255, 255, 255, 255, 255, 1, 2, 3, 4};
        Check.due("size(0)", x.size(0), want.length);
        for (int i = 0; i < want.length; i++) {
            Check.due("byteAt(0, " + i + ")", x.byteAt(0, i), want[i]);
        }
    }

    // 2: false when it would have more than 3100
    private static void feedBeyondTheTape() {
        for (int cut = 3079; cut <= 3082; cut++) {
            BatchTransfer x = new BatchTransfer();
            Check.due("155 times", fedUntilRefused(x), 155);
            Check.due("end(" + cut + ")", x.end(cut), true);
            Check.due("twenty more than " + cut, x.feed(1, 2, 3, 4, 5), cut <= 3080);
            Check.due("so many then", x.end(cut + 20), cut <= 3080);
        }
    }

    // 2: false, changing nothing
    private static void feedRefusedChangesNothing() {
        BatchTransfer x = new BatchTransfer();
        Check.due("feed", x.feed(0x61620001, 0x02030405, 0x06070809, 0x0A0B0C0D, 0x0E0F1011), true);
        for (int i = 1; i < 155; i++) {
            Check.due("feed " + i, x.feed(0x01010101, 0x02020202, 0x03030303, 0x04040404, i), true);
        }
        for (int i = 0; i < 3; i++) {
            Check.due("refused", x.feed(-1, -1, -1, -1, -1), false);
            Check.due("not a byte more", x.end(3101), false);
        }
        Check.due("all are there", x.end(3100), true);
        Check.due("as many as a file can have", x.end(3003), true);
        Check.due("file()", x.file(), 0);
        x.begin(3);
        toTheEnd(x);
        Check.due("size(0)", x.size(0), 3000);
        for (int i = 0; i < 17; i++) {
            Check.due("byteAt(0, " + i + ")", x.byteAt(0, i), i + 1);
        }
        Check.due("the last byte", x.byteAt(0, 2999), 1);
        Check.due("of the feed before", x.byteAt(0, 2996), 150 - 1);
    }

    // 3: false when it has not so many
    private static void endBeyondTheTape() {
        BatchTransfer x = new BatchTransfer();
        Check.due("end(1) of none", x.end(1), false);
        Check.due("end(MOST) of none", x.end(MOST), false);
        x.feed(1, 2, 3, 4, 5);
        Check.due("end(21) of 20", x.end(21), false);
        Check.due("end(20) of 20", x.end(20), true);
        Check.due("end(19) of 20", x.end(19), true);
        Check.due("end(20) of 19", x.end(20), false);
    }

    // 3: or n is below 0
    private static void endBelowZero() {
        BatchTransfer x = new BatchTransfer();
        for (int n : new int[] {-1, -20, LEAST}) {
            Check.due("end(" + n + ") of none", x.end(n), false);
        }
        x.feed(1, 2, 3, 4, 5);
        for (int n : new int[] {-1, -20, LEAST}) {
            Check.due("end(" + n + ") of 20", x.end(n), false);
        }
        Check.due("all are there", x.end(20), true);
    }

    // 3: false, changing nothing
    private static void endRefusedChangesNothing() {
        BatchTransfer x = new BatchTransfer();
        Check.tape(x, 'n', 0, 1, 2, 3);
        Check.due("end(6)", x.end(6), false);
        Check.due("end(-1)", x.end(-1), false);
        Check.due("file()", x.file(), 0);
        x.begin(3);
        toTheEnd(x);
        Check.due("size(0)", x.size(0), 3);
        Check.due("byteAt(0, 2)", x.byteAt(0, 2), 3);
    }

    // 3: Of the tape only the first n bytes count
    private static void endOfNothingAndOfAll() {
        BatchTransfer x = new BatchTransfer();
        Check.due("end(0) of none", x.end(0), true);
        x.feed(0x61004141, 0, 0, 0, 0);
        Check.due("end(0) of 20", x.end(0), true);
        Check.due("no byte counts", x.file(), Check.NONE);
        Check.due("no byte counts", x.end(1), false);
        // What was cut off is not there for a 0 behind the name either.
        x.feed(0x61626300, 0, 0, 0, 0);
        Check.due("end(3)", x.end(3), true);
        Check.due("the 0 doesn't count", x.file(), Check.NONE);
        // Bytes fed then stand where those that don't count stood.
        Check.due("feed", x.feed(0x64000708, 0, 0, 0, 0), true);
        Check.due("end(7)", x.end(7), true);
        Check.due("file()", x.file(), 0);
        x.begin(3);
        toTheEnd(x);
        Check.due("a name of four", x.nameAt(0, 3), 'd');
        Check.due("a name of four", x.nameAt(0, 4), Check.NONE);
        Check.due("two bytes", x.size(0), 2);
        Check.due("the second", x.byteAt(0, 1), 8);
    }

    // 4: The tape (empty then) is a file more: its name, 0, its bytes: its number
    private static void fileOfEachEdge() {
        String[] names = {"a", "ABCDEFGHIJKL"};
        int[] sizes = {0, 1, 3000};
        for (String name : names) {
            for (int size : sizes) {
                BatchTransfer x = new BatchTransfer();
                Check.tape(x, Check.tapeOf(name, Check.madeBytes(size, 9)));
                Check.due("file()", x.file(), 0);
                Check.due("the tape is empty then", x.end(1), false);
                Check.tape(x, Check.tapeOf(name));
                Check.due("one more", x.file(), 1);
                x.begin(3);
                toTheEnd(x);
                Check.due("size(0)", x.size(0), size);
                Check.due("size(1)", x.size(1), 0);
                Check.due("the name's last", x.nameAt(0, name.length() - 1), name.charAt(name.length() - 1));
                Check.due("behind the name", x.nameAt(0, name.length()), Check.NONE);
            }
        }
        BatchTransfer zeros = new BatchTransfer();
        Check.tape(zeros, 'z', 0, 0, 0);
        Check.due("0s behind the 0 are bytes", zeros.file(), 0);
        zeros.begin(3);
        toTheEnd(zeros);
        Check.due("two of them", zeros.size(0), 2);
    }

    // 4: NONE when it isn't so
    private static void fileThatIsNone() {
        none("an empty tape");
        none("a name without 0", 'a');
        none("twelve without 0", Check.tapeOf("ABCDEFGHIJKL"), 12);
        none("thirteen without 0", Check.tapeOf("ABCDEFGHIJKLM"), 13);
        none("a name of 13", Check.tapeOf("ABCDEFGHIJKLM"), 14);
        none("a name of 20", Check.tapeOf("ABCDEFGHIJKLMNOPQRST", 1), 22);
        none("a 0 alone", 0);
        none("a 0 before the name", 0, 'a', 0, 1);
        none("3001 bytes", Check.tapeOf("a", new int[3001]), 3003);
        none("3001 bytes behind the longest name", Check.tapeOf("ABCDEFGHIJKL", new int[3001]), 3014);
        none("the fullest tape", Check.tapeOf("a", new int[3098]), 3100);
    }

    private static void none(String what, int[] bytes, int cut) {
        none(what, java.util.Arrays.copyOf(bytes, cut));
    }

    private static void none(String what, int... bytes) {
        BatchTransfer x = new BatchTransfer();
        Check.tape(x, bytes);
        Check.due(what, x.file(), Check.NONE);
        Check.due(what + ": no file", x.begin(0), false);
    }

    // 4: a call that answers NONE makes no file of the tape, so that it isn't empty then
    private static void fileThatIsNoneChangesNothing() {
        BatchTransfer x = new BatchTransfer();
        Check.tape(x, Check.tapeOf("a", new int[3001]));
        Check.due("3001 bytes", x.file(), Check.NONE);
        Check.due("they are there", x.end(3003), true);
        Check.due("one less", x.end(3002), true);
        Check.due("3000 bytes", x.file(), 0);
    }

    // 4: NONE when 8 are there
    private static void fileWhenEightAreThere() {
        BatchTransfer x = new BatchTransfer();
        for (int f = 0; f < 8; f++) {
            Check.tape(x, Check.tapeOf("n" + f, f));
            Check.due("file " + f, x.file(), f);
        }
        Check.tape(x, Check.tapeOf("n8", 8));
        Check.due("a ninth", x.file(), Check.NONE);
        x.begin(3);
        toTheEnd(x);
        Check.due("eight", x.received(), 8);
        Check.due("the last of them", x.nameAt(7, 1), '7');
        Check.due("its byte", x.byteAt(7, 0), 7);
        Check.due("still a ninth", x.file(), Check.NONE);
        x.clear();
        Check.due("the tape was kept", x.file(), 0);
    }

    // 4: NONE when a session is on
    private static void fileWhenASessionIsOn() {
        BatchTransfer x = new BatchTransfer();
        x.made(5, 1);
        Check.tape(x, Check.tapeOf("b", 7));
        x.begin(3);
        int[] steps = {1, 6, 1, 6, 4, 6, 1, 6};
        for (int want : steps) {
            Check.due("file() in the session", x.file(), Check.NONE);
            Check.due("step()", x.step(), want);
        }
        Check.due("file() before the last step", x.file(), Check.NONE);
        Check.due("the last step", x.step(), Check.NONE);
        Check.due("one file was sent", x.received(), 1);
        Check.due("file() when it is over", x.file(), 1);
    }

    // 5: n bytes (0 .. 3000)
    private static void madeOfEachEdge() {
        for (int n : new int[] {0, 1, 2999, 3000}) {
            BatchTransfer x = new BatchTransfer();
            Check.due("made(" + n + ", 250)", x.made(n, 250), 0);
            x.begin(3);
            toTheEnd(x);
            Check.due("size(0)", x.size(0), n);
            Check.due("\"f\"", x.nameAt(0, 0), 'f');
            Check.due("and no more", x.nameAt(0, 1), Check.NONE);
            if (n > 0) {
                Check.due("the first", x.byteAt(0, 0), 250);
                Check.due("the last", x.byteAt(0, n - 1), 250 + 5 * (n - 1) & 255);
            }
            Check.noByteAt(x, 0, n);
        }
    }

    private static void madeBeyondItsEdges() {
        BatchTransfer x = new BatchTransfer();
        for (int n : new int[] {-1, 3001, -3000, 65536, LEAST, MOST}) {
            Check.due("made(" + n + ", 0)", x.made(n, 0), Check.NONE);
            Check.due("no file", x.begin(1), false);
        }
        Check.due("the next is the first", x.made(0, 0), 0);
    }

    // 5: byte k is the lowest eight bits of seed + 5 * k
    private static void madeSeedsWrapAround() {
        int[] seeds = {0, 255, 256, -1, -256, MOST, LEAST, MOST - 5, 0x12345678};
        for (int seed : seeds) {
            BatchTransfer x = new BatchTransfer();
            x.made(60, seed);
            x.begin(3);
            toTheEnd(x);
            for (int k = 0; k < 60; k++) {
                long sum = (long) seed + 5L * k;
                Check.due("made(60, " + seed + "): byte " + k, x.byteAt(0, k), Math.floorMod(sum, 256L));
            }
        }
    }

    // 5: As file(): NONE when 8 are there
    private static void madeWhenEightAreThere() {
        BatchTransfer x = new BatchTransfer();
        for (int f = 0; f < 8; f++) {
            Check.due("made " + f, x.made(3000, f), f);
        }
        Check.due("a ninth", x.made(0, 0), Check.NONE);
        Check.due("a ninth", x.made(3000, 0), Check.NONE);
        x.begin(3);
        toTheEnd(x);
        Check.due("eight", x.received(), 8);
        Check.due("the last byte of all", x.byteAt(7, 2999), 7 + 5 * 2999 & 255);
    }

    // 5: As file(): NONE when a session is on
    private static void madeWhenASessionIsOn() {
        BatchTransfer x = begun(1, 0);
        Check.due("at the ASK", x.made(1, 1), Check.NONE);
        Check.steps("EOT", x, 4);
        Check.due("at EOT", x.made(1, 1), Check.NONE);
        Check.steps("ACK", x, 6);
        Check.due("at ACK", x.made(1, 1), Check.NONE);
        Check.steps("over", x, -1);
        Check.due("over", x.made(1, 1), 1);
    }

    // 6: All files go
    private static void clearOfNone() {
        BatchTransfer x = new BatchTransfer();
        Check.due("clear() of none", x.clear(), true);
        Check.due("clear() again", x.clear(), true);
        for (int f = 0; f < 8; f++) {
            x.made(f, f);
        }
        Check.due("clear() of eight", x.clear(), true);
        Check.due("all went", x.begin(3), false);
        for (int f = 0; f < 8; f++) {
            Check.due("eight more", x.made(1, f), f);
        }
        Check.due("and no ninth", x.made(1, 8), Check.NONE);
        Check.tape(x, 't', 0);
        Check.due("clear()", x.clear(), true);
        Check.due("the tape is no file yet: it stays", x.file(), 0);
    }

    // 6: false when a session is on
    private static void clearWhenASessionIsOn() {
        BatchTransfer x = begun(1, 0, 5);
        for (int want : new int[] {4, 6}) {
            Check.due("clear() in the session", x.clear(), false);
            Check.steps("on", x, want);
        }
        Check.due("clear() before the last step", x.clear(), false);
        Check.steps("over", x, -1);
        Check.due("the files are there", x.begin(3), true);
        Check.due("clear() in the next", x.clear(), false);
        toTheEnd(x);
        Check.due("both files", x.received(), 2);
        Check.due("clear() when it is over", x.clear(), true);
        BatchTransfer failed = begun(1, 5);
        Check.due("failed", Check.damage(failed, 0, 67 ^ 24), Check.NONE);
        Check.due("clear() when it has failed", failed.clear(), true);
    }

    // 7: False when there are no files
    private static void beginWithoutFiles() {
        BatchTransfer x = new BatchTransfer();
        x.feed(0x61000000, 0, 0, 0, 0);
        Check.due("a tape is no file", x.begin(3), false);
        x.made(5, 1);
        Check.due("one file", x.begin(3), true);
        toTheEnd(x);
        x.clear();
        for (int mode = 0; mode < 4; mode++) {
            Check.due("begin(" + mode + ") behind clear()", x.begin(mode), false);
        }
        Check.due("no session", x.line(), 0);
        Check.states("of the latest", x, 1, 1);
        Check.due("what was received is there", x.size(0), 5);
    }

    // 7: False when there is no such mode
    private static void beginWithoutSuchAMode() {
        int[] others = {-1, 4, 5, 256, -4, LEAST, MOST};
        BatchTransfer x = new BatchTransfer();
        x.made(5, 1);
        for (int mode : others) {
            Check.due("begin(" + mode + ")", x.begin(mode), false);
            Check.due("no session", x.line(), 0);
            Check.due("no state", x.state(0), Check.NONE);
        }
        for (int mode = 0; mode < 4; mode++) {
            Check.due("begin(" + mode + ")", x.begin(mode), true);
        }
        Check.steps("HEAD and block", x, 1, 6, 1);
        for (int mode : others) {
            Check.due("begin(" + mode + ") in a session", x.begin(mode), false);
            Check.due("it is on", x.line(), 133);
        }
        Check.steps("it goes on", x, 6, 4, 6, 1, 6, -1);
        Check.due("its file", x.size(0), 5);
    }

    // 7: one that was on ends
    private static void beginEndsTheOneThatWasOn() {
        for (int steps = 0; steps <= 8; steps++) {
            BatchTransfer x = stepped(begun(3, 5), steps);
            Check.due("begin(0) behind step " + steps, x.begin(0), true);
            Check.due("the ASK of the new one", x.lineAt(0), 21);
            Check.due("line()", x.line(), 1);
            Check.states("the new one", x, 0, 0);
            Check.steps("the new one", x, 1, 6, 4, 6, -1);
            Check.states("the new one is over", x, 1, 1);
        }
        BatchTransfer missed = begun(3, 5);
        Check.steps("HEAD", missed, 1, 6);
        for (int round = 0; round < 2; round++) {
            missed.begin(3);
            for (int i = 0; i < 10; i++) {
                Check.due("its misses and its HEAD are forgotten: byte 0", Check.lose(missed), 0);
                Check.due("the ASK", Check.lose(missed), 67);
            }
        }
        Check.steps("the new one", missed, 1, 6, 1, 6, 4, 6, 1, 6, -1);
        Check.states("the new one", missed, 1, 1);
    }

    // 7: what was received goes
    private static void beginTakesWhatWasReceived() {
        BatchTransfer x = begun(3, 5, 6);
        toTheEnd(x);
        Check.due("two files", x.received(), 2);
        x.begin(3);
        Check.due("none", x.received(), 0);
        Check.due("size(0)", x.size(0), Check.NONE);
        Check.due("nameAt(0, 0)", x.nameAt(0, 0), Check.NONE);
        Check.noByteAt(x, 0, 0);
        Check.steps("HEAD", x, 1, 6);
        x.begin(2);
        Check.due("one without a name", x.received(), 1);
        Check.due("nameAt(0, 0)", x.nameAt(0, 0), Check.NONE);
        Check.due("and without bytes", x.size(0), 0);
        Check.due("size(1)", x.size(1), Check.NONE);
    }

    // 8: loses what is on the line (a mask whose lowest eight bits are 0)
    private static void spoilOfNoBits() {
        for (int mask : new int[] {0, 256, -256, LEAST, 0x7FFFFF00}) {
            BatchTransfer x = begun(1, 5);
            x.spoil(LEAST, mask);
            Check.due("a lost ASK, mask " + mask, x.step(), 0);
            Check.steps("and on", x, 67, 1);
            x.spoil(MOST, mask);
            Check.due("a lost block, mask " + mask, x.step(), 67);
        }
    }

    // 8: is changed by these bits (exclusive or): the lowest eight alone
    private static void spoilOfHigherBitsToo() {
        for (int high : new int[] {0, 256, -256, LEAST}) {
            BatchTransfer x = begun(1, 5);
            x.spoil(0, high ^ 67 ^ 24);
            Check.due("a CAN by bits above too", x.step(), Check.NONE);
            Check.states("a CAN by bits above too", x, 2, 0);
            BatchTransfer y = stepped(begun(1, 5), 3);
            y.spoil(0, high ^ 4 ^ 24);
            Check.due("EOT becomes CAN", y.step(), Check.NONE);
            Check.states("EOT becomes CAN", y, 0, 2);
        }
        BatchTransfer all = begun(1, 5);
        all.spoil(0, -1);
        Check.due("all eight bits", all.step(), 0);
    }

    // 8: byte at modulo its length (not below 0)
    private static void spoilOfPlacesOutside() {
        for (int at : new int[] {0, 1, -1, 2, 1000, LEAST, MOST}) {
            BatchTransfer x = begun(1, 5);
            Check.due("the one byte, at " + at, Check.damage(x, at, 67 ^ 24), Check.NONE);
            Check.due("state(0)", x.state(0), 2);
        }
        int[] lengths = {132, 133, 1029, 133};
        for (int mode = 0; mode < 4; mode++) {
            int n = lengths[mode];
            int[] ats = {0, n - 1, n, n + 1, 2 * n, -1, -n, -n - 1, 7 * n + 3, LEAST, LEAST + 1, MOST, MOST - 1};
            for (int at : ats) {
                BatchTransfer x = stepped(begun(mode, 900), 1);
                Check.due("line()", x.line(), n);
                Check.due("damaged at " + at, Check.damage(x, at, 1), mode == 0 ? 21 : 67);
                Check.states("a miss", x, 0, 0);
                Check.steps("the unit again is right", x, mode == 2 ? 2 : 1, 6);
            }
        }
    }

    // 8: of several tellings the latest
    private static void spoilTheLatestTelling() {
        BatchTransfer x = begun(1, 5);
        x.spoil(0, 67 ^ 24);
        x.spoil(0, 0);
        Check.due("damaged, then lost: lost", x.step(), 0);
        x.spoil(0, 0);
        x.spoil(0, 4);
        Check.due("lost, then damaged: EOT", x.step(), 6);
        BatchTransfer y = begun(1, 5);
        y.spoil(0, 1);
        y.spoil(0, 1);
        Check.due("twice the same is once", y.step(), 0);
    }

    // 8: The next step
    private static void spoilTheNextStepAlone() {
        BatchTransfer x = begun(1, 5);
        x.spoil(0, 67 ^ 24);
        Check.due("not yet", x.lineAt(0), 67);
        x.line();
        x.state(0);
        Check.due("not yet", x.line(), 1);
        Check.due("the next step", x.step(), Check.NONE);
        BatchTransfer y = begun(1, 5);
        y.spoil(0, 0);
        Check.steps("the next step alone", y, 0, 67, 1, 6, 4, 6, -1);
        Check.states("the next step alone", y, 1, 1);
    }

    // 9: NONE when none is on
    private static void stepWithoutASession() {
        BatchTransfer x = new BatchTransfer();
        Check.due("new", x.step(), Check.NONE);
        x.made(5, 1);
        Check.due("before any session", x.step(), Check.NONE);
        x.begin(4);
        Check.due("behind a refused begin", x.step(), Check.NONE);
        x.begin(0);
        toTheEnd(x);
        for (int i = 0; i < 3; i++) {
            Check.due("when it is over", x.step(), Check.NONE);
            Check.states("as they were", x, 1, 1);
        }
        Check.due("size(0)", x.size(0), 128);
    }

    // 9: NONE when the session is over then
    private static void stepThatEndsASession() {
        BatchTransfer x = stepped(begun(0, 5), 4);
        Check.due("on before", x.line(), 1);
        Check.due("over then", x.step(), Check.NONE);
        Check.due("no line", x.line(), 0);
        Check.noLineAt(x, 0);
    }

    // 9: the first byte of what is on the line then, 0 .. 255 (before any damage in the next step)
    private static void stepTellsTheByteBeforeDamage() {
        BatchTransfer x = begun(2, 900);
        Check.due("a lost ASK: byte 0", Check.lose(x), 0);
        Check.due("a session is on, 0 is no NONE", x.line(), 1);
        Check.due("lineAt(0)", x.lineAt(0), 0);
        x.spoil(0, 255);
        Check.due("told, not damaged yet", x.lineAt(0), 0);
        Check.due("the ASK", x.step(), 67);
        Check.due("a large block", x.step(), 2);
        x.spoil(0, 255);
        Check.due("told, not damaged yet", x.lineAt(0), 2);
    }

    // 10: How many bytes are on the line; 0 when no session is on
    private static void lineOfEachLength() {
        BatchTransfer x = new BatchTransfer();
        Check.due("new", x.line(), 0);
        x.made(900, 1);
        Check.due("before any session", x.line(), 0);
        int[] blocks = {132, 133, 1029, 133};
        for (int mode = 0; mode < 4; mode++) {
            x.begin(mode);
            Check.due("the ASK", x.line(), 1);
            x.step();
            Check.due("mode " + mode + ": a block", x.line(), blocks[mode]);
            x.step();
            Check.due("ACK", x.line(), 1);
        }
        toTheEnd(x);
        Check.due("over", x.line(), 0);
    }

    // 11: NoSuchElementException: there is none
    private static void lineAtItsEdges() {
        int[] outside = {-1, LEAST, MOST};
        BatchTransfer fresh = new BatchTransfer();
        Check.noLineAt(fresh, 0);
        for (int steps = 0; steps < 3; steps++) {
            BatchTransfer x = stepped(begun(2, 900), steps);
            Check.noLineAt(x, x.line());
            Check.due("the first is there", x.lineAt(0) >= 0, true);
            Check.due("the last is there", x.lineAt(x.line() - 1) >= 0, true);
            for (int i : outside) {
                Check.noLineAt(x, i);
            }
        }
        BatchTransfer over = begun(2, 900);
        toTheEnd(over);
        for (int i : new int[] {0, 1, 1028, -1, LEAST, MOST}) {
            Check.noLineAt(over, i);
        }
    }

    // 12: NONE before any
    private static void stateBeforeAnySession() {
        BatchTransfer x = new BatchTransfer();
        Check.states("new", x, Check.NONE, Check.NONE);
        Check.due("no files", x.begin(0), false);
        Check.states("refused: no files", x, Check.NONE, Check.NONE);
        x.made(1, 1);
        Check.due("no such mode", x.begin(4), false);
        Check.states("refused: no such mode", x, Check.NONE, Check.NONE);
        x.begin(0);
        Check.states("begun", x, 0, 0);
    }

    // 12: NONE for others
    private static void stateOfOthers() {
        BatchTransfer x = begun(0, 5);
        int[] others = {-1, 2, 3, 256, 257, LEAST, MOST};
        for (int side : others) {
            Check.due("state(" + side + ") at work", x.state(side), Check.NONE);
        }
        toTheEnd(x);
        for (int side : others) {
            Check.due("state(" + side + ") when it is over", x.state(side), Check.NONE);
        }
    }

    // 12: 0 at work, 1 done, 2 failed (also of the latest session that is over)
    private static void stateOfOneThatIsOver() {
        BatchTransfer x = begun(1, 5);
        toTheEnd(x);
        x.made(1, 1);
        Check.states("done, a file more", x, 1, 1);
        x.begin(1);
        Check.due("failed", Check.damage(x, 0, 67 ^ 24), Check.NONE);
        Check.states("the sender failed, the receiver still at work", x, 2, 0);
        x.clear();
        Check.states("behind clear()", x, 2, 0);
        x.begin(1);
        Check.states("behind a refused begin", x, 2, 0);
        x.step();
        Check.states("behind a step without a session", x, 2, 0);
    }

    // 13: in modes 0 to 2 one from the beginning, without a name
    private static void receivedFromTheBeginning() {
        Check.due("before any session", new BatchTransfer().received(), 0);
        for (int mode = 0; mode < 4; mode++) {
            BatchTransfer x = begun(mode, 5, 6);
            int n = mode == 3 ? 0 : 1;
            Check.due("mode " + mode + " at first", x.received(), n);
            Check.due("mode " + mode + ": size(0)", x.size(0), n - 1);
            Check.due("mode " + mode + ": nameAt(0, 0)", x.nameAt(0, 0), Check.NONE);
            Check.lose(x);
            Check.due("mode " + mode + " behind a miss", x.received(), n);
        }
    }

    // 13: How many files the receiver has begun
    private static void receivedCountsBegunFiles() {
        BatchTransfer x = begun(3, 5, 0);
        int[] counts = {0, 1, 1, 1, 1, 1, 1, 2, 2, 2, 2, 2, 2};
        for (int i = 0; i < counts.length; i++) {
            x.step();
            Check.due("behind step " + (i + 1), x.received(), counts[i]);
        }
        Check.states("over", x, 1, 1);
        Check.due("when it is over", x.received(), 2);
    }

    // 14: NONE when there is none
    private static void sizeOfNone() {
        Check.due("before any session", new BatchTransfer().size(0), Check.NONE);
        BatchTransfer x = begun(3, 5, 6);
        Check.due("before its HEAD", x.size(0), Check.NONE);
        Check.steps("file 0", x, 1, 6, 1, 6, 4, 6);
        for (int f : new int[] {-1, 1, 2, 8, LEAST, MOST}) {
            Check.due("size(" + f + ")", x.size(f), Check.NONE);
        }
        toTheEnd(x);
        Check.due("size(1)", x.size(1), 6);
        Check.due("size(2)", x.size(2), Check.NONE);
    }

    // 14: How many bytes file f of these has so far
    private static void sizeSoFar() {
        BatchTransfer x = begun(3, 129, 5);
        int[] first = {-1, 0, 0, 128, 128, 256, 256, 129, 129};
        for (int i = 0; i < first.length; i++) {
            x.step();
            Check.due("size(0) behind step " + (i + 1), x.size(0), first[i]);
        }
        int[] second = {0, 0, 128, 128, 5, 5, 5, 5};
        for (int i = 0; i < second.length; i++) {
            x.step();
            Check.due("size(1) behind step " + (i + 10), x.size(1), second[i]);
            Check.due("size(0) stays", x.size(0), 129);
        }
        Check.due("over", x.line(), 0);
    }

    // 15: NoSuchElementException: there is none
    private static void byteAtItsEdges() {
        BatchTransfer fresh = new BatchTransfer();
        Check.noByteAt(fresh, 0, 0);
        BatchTransfer x = begun(3, 129, 0);
        Check.noByteAt(x, 0, 0);
        Check.steps("HEAD", x, 1, 6);
        Check.noByteAt(x, 0, 0);
        Check.steps("blocks", x, 1, 6, 1, 6);
        Check.due("the last so far", x.byteAt(0, 255), 26);
        Check.noByteAt(x, 0, 256);
        Check.steps("EOT", x, 4, 6);
        Check.due("the last", x.byteAt(0, 128), 1 + 5 * 128 & 255);
        Check.noByteAt(x, 0, 129);
        toTheEnd(x);
        for (int i : new int[] {-1, 129, LEAST, MOST}) {
            Check.noByteAt(x, 0, i);
        }
        for (int f : new int[] {-1, 1, 2, 8, LEAST, MOST}) {
            Check.noByteAt(x, f, 0);
        }
    }

    // 15: Byte i of it, 0 .. 255 as all bytes are
    private static void byteAtOfAllValues() {
        int[] all = new int[256];
        for (int i = 0; i < 256; i++) {
            all[i] = i;
        }
        BatchTransfer x = new BatchTransfer();
        Check.tape(x, Check.tapeOf("all", all));
        x.file();
        x.begin(3);
        toTheEnd(x);
        for (int i = 0; i < 256; i++) {
            Check.due("byteAt(0, " + i + ")", x.byteAt(0, i), i);
        }
    }

    // 16: NONE when there is none
    private static void nameAtItsEdges() {
        Check.due("before any session", new BatchTransfer().nameAt(0, 0), Check.NONE);
        BatchTransfer x = new BatchTransfer();
        Check.tape(x, Check.tapeOf("ABCDEFGHIJK\u00ff"));
        x.file();
        x.made(0, 0);
        x.begin(3);
        Check.due("before its HEAD", x.nameAt(0, 0), Check.NONE);
        Check.steps("HEAD", x, 1, 6);
        Check.due("the first", x.nameAt(0, 0), 'A');
        Check.due("the twelfth", x.nameAt(0, 11), 255);
        toTheEnd(x);
        for (int i : new int[] {-1, 12, 13, LEAST, MOST}) {
            Check.due("nameAt(0, " + i + ")", x.nameAt(0, i), Check.NONE);
        }
        Check.due("behind a name of one", x.nameAt(1, 1), Check.NONE);
        for (int f : new int[] {-1, 2, 8, LEAST, MOST}) {
            Check.due("nameAt(" + f + ", 0)", x.nameAt(f, 0), Check.NONE);
        }
        BatchTransfer plain = begun(2, 5);
        toTheEnd(plain);
        Check.due("a file without a name", plain.nameAt(0, 0), Check.NONE);
    }
}
