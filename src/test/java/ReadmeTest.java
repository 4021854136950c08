import java.io.IOException;
import java.nio.file.Files;
import java.nio.file.Path;
import java.util.List;

/** The sample in README.md is the one that runs here, and answers what its comments say. */
public final class ReadmeTest {
    private static final String FIRST_LINE = "// The sample begins.";
    private static final String LAST_LINE = "// The sample ends.";

    public static void main(String[] args) throws IOException {
        sample();
        Check.same("the sample in README.md", between("README.md", "```java", "```"),
                between("src/test/java/ReadmeTest.java", FIRST_LINE, LAST_LINE));
        Check.end();
    }

    private static void sample() {
        // The sample begins.
        DigestBox box = new DigestBox();

        // SHA-256 of "abc", which comes in two pieces.
        box.feed(0x61620000, 0, 0, 0, 0);
        box.end(2);
        box.more(0);
        box.feed(0x63000000, 0, 0, 0, 0);
        box.end(1);
        long bytes = box.more(0);       // 3: the RUN so far
        int length = box.peek(0);       // 32: THE RESULT
        int first = box.result(0);      // 0xba
        box.restart(0);                 // the next text of KIND 0 starts anew

        // TLS 1.3's first secret without a shared key: HKDF-Extract of 32 zeros with an empty salt.
        box.key();                      // the TAPE is empty, so THE KEY is
        box.feed(0, 0, 0, 0, 0);
        box.feed(0, 0, 0, 0, 0);
        box.end(32);
        box.hmac(0);
        int early = box.result(0);      // 0x33

        // The secret derived from it: the label is "derived", the context the SHA-256 of an empty text.
        box.keep();
        box.feed(0x64657269, 0x766564e3, 0xb0c44298, 0xfc1c149a, 0xfbf4c899);
        box.feed(0x6fb92427, 0xae41e464, 0x9b934ca4, 0x95991b78, 0x52b85500);
        box.end(39);
        box.expandLabel(0, 32, 7);
        int derived = box.result(0);    // 0x6f

        // 42 bytes from that secret, with an empty info.
        box.keep();
        int expanded = box.expand(0, 42);   // 42

        int blocks = box.count(3);      // 17: what SHA-256 has gone over for all of this
        // The sample ends.
        Check.same("bytes", bytes, 3);
        Check.same("length", length, 32);
        Check.same("first", first, 0xba);
        Check.same("early", early, 0x33);
        Check.same("derived", derived, 0x6f);
        Check.same("expanded", expanded, 42);
        Check.same("blocks", blocks, 17);
    }

    /** The lines between these two, without the blanks at their ends. */
    private static String between(String file, String firstLine, String lastLine) throws IOException {
        List<String> lines = Files.readAllLines(Path.of(file)).stream().map(String::strip).toList();
        int first = lines.indexOf(firstLine) + 1;
        List<String> behind = lines.subList(first, lines.size());
        return String.join("\n", behind.subList(0, behind.indexOf(lastLine)));
    }
}
