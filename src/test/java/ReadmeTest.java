import java.io.IOException;
import java.lang.reflect.Method;
import java.lang.reflect.Modifier;
import java.nio.file.Files;
import java.nio.file.Path;

/** README.md tells every call of the face, and its example, which stands here too, does what it says. */
public final class ReadmeTest {
    public static void main(String[] args) throws IOException {
        String readme = Files.readString(Path.of("README.md"));
        callsAreTold(readme);
        exampleIsThisOne(readme);
        example();
        Check.finish();
    }

    private static void callsAreTold(String readme) {
        for (Method m : BatchTransfer.class.getDeclaredMethods()) {
            if (Modifier.isPublic(m.getModifiers())) {
                Check.due("README.md tells " + m.getName(), readme.contains("| `" + m.getName() + "("), true);
            }
        }
    }

    private static void exampleIsThisOne(String readme) throws IOException {
        String mine = Files.readString(Path.of("src/test/java/ReadmeTest.java"));
        String behind = readme.substring(readme.indexOf("```java\n") + 8);
        String[] lines = behind.substring(0, behind.indexOf("```")).split("\n");
        Check.due("the example has lines", lines.length > 5, true);
        int at = 0;
        for (String line : lines) {
            String code = line.split(" +//")[0];
            int found = mine.indexOf("\n        " + code + "\n", at);
            Check.due("in this order here: " + code, found >= 0, true);
            at = Math.max(at, found);
        }
    }

    private static void example() {
        BatchTransfer x = new BatchTransfer();
        x.feed(0x6E616D65, 0x00010203, 0, 0, 0);
        x.end(8);
        x.file();
        x.made(300, 7);
        x.begin(3);
        x.step();
        Check.due("the HEAD", x.line(), 133);
        Check.due("its name", x.lineAt(3), 'n');
        Check.due("its size", x.lineAt(8), '3');
        x.spoil(10, 4);
        Check.due("not damaged yet", x.lineAt(10), 0);
        while (x.step() != BatchTransfer.NONE) {
            continue;
        }
        boolean arrived = x.state(0) == 1 && x.state(1) == 1;
        int last = x.byteAt(1, x.size(1) - 1);
        Check.due("both sides are done", arrived, true);
        Check.due("the last byte", last, 7 + 5 * 299 & 255);
        Check.due("two files", x.received(), 2);
        Check.due("\"name\"", x.nameAt(0, 3), 'e');
        Check.due("three bytes", x.size(0), 3);
        Check.due("the third", x.byteAt(0, 2), 3);
    }
}
