import java.util.NoSuchElementException;
import java.util.Random;

/** Promises 1 to 16 together: runs of chance calls with fixed seeds, answered as the model answers them. */
public final class ModelTest {
    private static final int CALLS = 512;
    /** What damage may make of a byte alone. */
    private static final int[] BYTES = {4, 6, 21, 24, 67, 0, 1, 2};

    private final Random random;
    private final String run;
    private final BatchTransfer x = new BatchTransfer();
    private final Model model = new Model();
    private final int harm;
    private int calls = 0;

    private ModelTest(int seed) {
        random = new Random(seed);
        run = "run " + seed;
        harm = 1 + random.nextInt(12);
    }

    public static void main(String[] args) {
        for (int seed = 0; seed < 4000; seed++) {
            new ModelTest(seed).go();
        }
        Check.finish();
    }

    private void go() {
        while (calls < CALLS - 60) {
            makeFiles();
            beginAny();
            int steps = random.nextInt(200);
            for (int i = 0; i < steps && calls < CALLS - 30; i++) {
                stepOnce();
            }
            lookAtAll();
        }
    }

    private void due(String call, long got, long want) {
        calls++;
        Check.due(run + ", call " + calls + ": " + call, got, want);
    }

    private void due(String call, boolean got, boolean want) {
        due(call, got ? 1 : 0, want ? 1 : 0);
    }

    private int some() {
        return random.nextInt(5) == 0 ? random.nextInt() : random.nextInt(14) - 3;
    }

    private void makeFiles() {
        if (random.nextInt(3) == 0) {
            due("clear()", x.clear(), model.clear());
        }
        int n = random.nextInt(4);
        for (int i = 0; i < n; i++) {
            if (random.nextInt(3) == 0) {
                feedFile();
            } else {
                int size = random.nextInt(8) == 0 ? random.nextInt(6200) - 100 : random.nextInt(4) * 128 + some();
                int seed = random.nextInt();
                due("made(" + size + ", " + seed + ")", x.made(size, seed), model.made(size, seed));
            }
        }
    }

    private void feedFile() {
        int n = random.nextInt(9) == 0 ? 156 : 1 + random.nextInt(3);
        for (int i = 0; i < n && calls < CALLS - 60; i++) {
            int a = random.nextInt();
            int b = random.nextInt(2) == 0 ? random.nextInt() : random.nextInt() & 0xFF00FF;
            int c = random.nextInt() & 0xFF00FFFF;
            int e = some();
            due("feed", x.feed(a, b, c, i, e), model.feed(a, b, c, i, e));
        }
        int cut = random.nextInt(3) == 0 ? some() : random.nextInt(n * 20 + 1);
        due("end(" + cut + ")", x.end(cut), model.end(cut));
        due("file()", x.file(), model.file());
    }

    private void beginAny() {
        int mode = random.nextInt(9) == 0 ? some() : random.nextInt(4);
        due("begin(" + mode + ")", x.begin(mode), model.begin(mode));
    }

    private void stepOnce() {
        if (random.nextInt(harm) == 0) {
            spoilSomehow();
        }
        due("step()", x.step(), model.step());
        if (random.nextInt(4) == 0) {
            lookAtOne();
        }
    }

    private void spoilSomehow() {
        int at = random.nextInt();
        int mask = random.nextInt(3) == 0 ? random.nextInt() << 8 : random.nextInt();
        if (model.line() == 1 && random.nextInt(2) == 0) {
            mask = model.lineAt(0) ^ BYTES[random.nextInt(BYTES.length)];
        }
        calls++;
        x.spoil(at, mask);
        model.spoil(at, mask);
    }

    private void lookAtOne() {
        int f = random.nextInt(4) == 0 ? some() : model.received() - 1;
        int i = random.nextInt(4) == 0 ? some() : model.size(f) - random.nextInt(3);
        switch (random.nextInt(6)) {
            case 0:
                due("state(" + f + ")", x.state(f), model.state(f));
                break;
            case 1:
                due("received()", x.received(), model.received());
                break;
            case 2:
                due("size(" + f + ")", x.size(f), model.size(f));
                break;
            case 3:
                due("byteAt(" + f + ", " + i + ")", byteOf(() -> x.byteAt(f, i)), byteOf(() -> model.byteAt(f, i)));
                break;
            case 4:
                due("nameAt(" + f + ", " + i + ")", x.nameAt(f, i), model.nameAt(f, i));
                break;
            default:
                int k = random.nextInt(4) == 0 ? some() : model.line() - random.nextInt(4);
                due("lineAt(" + k + ")", byteOf(() -> x.lineAt(k)), byteOf(() -> model.lineAt(k)));
                break;
        }
    }

    private void lookAtAll() {
        due("line()", x.line(), model.line());
        due("state(0)", x.state(0), model.state(0));
        due("state(1)", x.state(1), model.state(1));
        due("received()", x.received(), model.received());
        for (int f = 0; f < model.received(); f++) {
            due("size(" + f + ")", x.size(f), model.size(f));
            due("nameAt(" + f + ", 1)", x.nameAt(f, 1), model.nameAt(f, 1));
        }
    }

    private interface Call {
        int answer();
    }

    /** The answer, or a number that no byte is when it throws. */
    private static int byteOf(Call call) {
        try {
            return call.answer();
        } catch (NoSuchElementException e) {
            return 1000;
        }
    }
}
