import java.io.IOException;
import java.lang.reflect.Method;
import java.lang.reflect.Modifier;
import java.nio.file.DirectoryStream;
import java.nio.file.Files;
import java.nio.file.Path;
import java.util.List;

/** README.md: its example is the one that runs here and answers what it says; every call and every test is named. */
public final class ReadmeTest {
    private static final Path README = Path.of("README.md");
    private static final Path TESTS = Path.of("src", "test", "java");
    private static final Check check = new Check();

    public static void main(String[] args) throws IOException {
        example();
        exampleIsTheOneAbove();
        everyCallIsNamed();
        everyTestIsNamed();
        check.end();
    }

    private static void example() {
        SealingDesk desk = new SealingDesk();
        desk.key(0, 0x00010203, 0x04050607, 0x08090a0b, 0x0c0d0e0f);
        desk.key(1, 0x10111213, 0x14151617, 0x18191a1b, 0x1c1d1e1f);

        desk.feed(0x6e616d65, 4);         // four bytes come to the end of the input
        desk.item();                      // the input becomes an item, which the mark covers, and is empty then

        desk.feed(0x68656c6c, 4);
        desk.feed(0x6f000000, 1);         // the first byte alone: the input has 5 now
        int sealed = desk.seal(0);        // 21: the mark and 5 bytes; read them by size() and at(k)

        desk.take();                      // the output becomes the input
        int opened = desk.open(0);        // 5, and the output is what was sealed
        int first = desk.at(0);           // 0x68
        byte[] before = Check.output(desk);

        desk.alter(20, 0);                // one byte of what was sealed becomes another
        int refused = desk.open(0);       // SealingDesk.NONE; the output stays as it was

        check.same("what is sealed", sealed, 21);
        check.same("what is opened", opened, 5);
        check.same("its first byte", first, 0x68);
        check.same("the output", before, Check.bytes("68656c6c6f"));
        check.same("what is altered", refused, SealingDesk.NONE);
        check.outputIs("the output behind it", desk, before);
    }

    /** Each line of the example in README.md stands in this file too, behind the line that stands before it there. */
    private static void exampleIsTheOneAbove() throws IOException {
        List<String> readme = Files.readAllLines(README);
        List<String> source = Files.readAllLines(TESTS.resolve("ReadmeTest.java"));
        int from = readme.indexOf("```java") + 1;
        int to = readme.subList(from, readme.size()).indexOf("```") + from;
        check.same("README.md has an example", from > 0 && to > from ? 1 : 0, 1);
        int place = 0;
        for (int k = from; k < to; k++) {
            String line = readme.get(k).isEmpty() ? "" : "        " + readme.get(k);
            int found = source.subList(place, source.size()).indexOf(line);
            if (found < 0) {
                check.fail("the example does not run this line: " + readme.get(k));
            } else {
                place += found + 1;
            }
        }
    }

    private static void everyCallIsNamed() throws IOException {
        String text = Files.readString(README);
        for (Method method : SealingDesk.class.getDeclaredMethods()) {
            if (Modifier.isPublic(method.getModifiers()) && !text.contains("| `" + method.getName() + "(")) {
                check.fail("README.md does not tell the call " + method.getName());
            }
        }
    }

    private static void everyTestIsNamed() throws IOException {
        String text = Files.readString(README);
        try (DirectoryStream<Path> files = Files.newDirectoryStream(TESTS, "*.java")) {
            for (Path file : files) {
                String name = file.getFileName().toString().replace(".java", "");
                if (!text.contains("`" + name + "`")) {
                    check.fail("README.md does not name " + name);
                }
            }
        }
    }
}
