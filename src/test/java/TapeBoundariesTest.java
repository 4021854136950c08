import java.util.Arrays;

/** The boundary cases of feed and end (promises 2 and 3): a test for each sentence. */
public final class TapeBoundariesTest {
    public static void main(String[] args) {
        Check.test("feed: four bytes of each number, the highest first", TapeBoundariesTest::bytesOfNumbers);
        Check.test("feed: the bytes come to the end of the TAPE", TapeBoundariesTest::bytesComeToTheEnd);
        Check.test("feed: its answer is the TAPE's length", TapeBoundariesTest::feedAnswersLength);
        Check.test("feed: no room for 20", TapeBoundariesTest::noRoom);
        Check.test("feed: a full TAPE can be used", TapeBoundariesTest::fullTapeIsWhole);
        Check.test("end: its answer is n", TapeBoundariesTest::endAnswersN);
        Check.test("end: n below 0", TapeBoundariesTest::endBelowZero);
        Check.test("end: n above the TAPE's length", TapeBoundariesTest::endAboveLength);
        Check.test("end: n = 0", TapeBoundariesTest::endAtZero);
        Check.test("end: n = the TAPE's length", TapeBoundariesTest::endAtLength);
        Check.test("end: only the first n bytes stay", TapeBoundariesTest::firstBytesStay);
        Check.test("end: what was cut off does not come back", TapeBoundariesTest::cutBytesAreGone);
        Check.end();
    }

    private static void bytesOfNumbers() {
        tapeIs("0000000000000001ffffffff800000007fffffff", 0, 1, -1, Integer.MIN_VALUE, Integer.MAX_VALUE);
        tapeIs("0102030480818283f0e0d0c00000ff00ff00007f", 0x01020304, 0x80818283, 0xf0e0d0c0, 0xff00, 0xff00007f);
    }

    /** The TAPE that these numbers make has these bytes: told by its hash, as the JDK's makes it. */
    private static void tapeIs(String hex, int a, int b, int c, int d, int e) {
        DigestBox box = new DigestBox();
        box.feed(a, b, c, d, e);
        Check.same("hash of the TAPE", hashOfTape(box), hashOf(Check.bytes(hex)));
    }

    private static void bytesComeToTheEnd() {
        DigestBox box = new DigestBox();
        box.feed(0x61626364, 0x65666768, 0x696a6b6c, 0x6d6e6f70, 0x71727374);
        box.end(1);
        box.feed(0x62636465, 0, 0, 0, 0);
        box.end(3);
        Check.same("hash of abc", hashOfTape(box), "ba7816bf8f01cfea");
    }

    private static void feedAnswersLength() {
        DigestBox box = new DigestBox();
        Check.same("the first", box.feed(1, 2, 3, 4, 5), 20);
        Check.same("the second", box.feed(1, 2, 3, 4, 5), 40);
        box.end(7);
        Check.same("behind 7 bytes", box.feed(1, 2, 3, 4, 5), 27);
        box.key();
        Check.same("after the TAPE was taken", box.feed(1, 2, 3, 4, 5), 20);
    }

    /** The limit lies beyond 512 calls, where the document leaves answers free; the class keeps to it all the same. */
    private static void noRoom() {
        for (int length = 65510; length <= 65536; length++) {
            DigestBox box = tapeOf(length);
            if (length <= 65516) {
                Check.same("feed behind " + length, box.feed(1, 2, 3, 4, 5), length + 20);
            } else {
                Check.throwing("feed behind " + length, IllegalStateException.class, () -> box.feed(1, 2, 3, 4, 5));
                Check.same("the TAPE's length", box.count(0), length);
            }
        }
        DigestBox box = tapeOf(65517);
        Check.throwing("one byte too many", IllegalStateException.class, () -> box.feed(1, 2, 3, 4, 5));
        box.end(65516);
        Check.same("after one byte less", box.feed(1, 2, 3, 4, 5), 65536);
        box.more(0);
        Check.same("after the TAPE was taken", box.feed(1, 2, 3, 4, 5), 20);
    }

    private static void fullTapeIsWhole() {
        DigestBox box = tapeOf(65536);
        Check.throwing("feed", IllegalStateException.class, () -> box.feed(1, 2, 3, 4, 5));
        Check.same("its hash", hashOfTape(box), hashOf(Boxes.sample(65536)));
        Check.same("as a key", Check.outcome(() -> tapeOf(65536).key()), "65536");
        Check.same("in hmac", Check.outcome(() -> tapeOf(65536).hmac(0)), "32");
        Check.same("in expand", Check.outcome(() -> tapeOf(65536).expand(0, 33)), "33");
    }

    /** The bytes that fill no whole feed come first, as a feed that is cut afterwards has no room at the limit. */
    private static DigestBox tapeOf(int length) {
        byte[] bytes = Boxes.sample(length);
        DigestBox box = new DigestBox();
        int odd = length % 20;
        Boxes.tape(box, Arrays.copyOf(bytes, odd));
        Boxes.tape(box, Arrays.copyOfRange(bytes, odd, length));
        return box;
    }

    private static void endAnswersN() {
        for (int n = 0; n <= 50; n++) {
            DigestBox box = new DigestBox();
            Boxes.tape(box, Boxes.sample(50));
            Check.same("end(" + n + ")", box.end(n), n);
            Check.same("the TAPE's length", box.count(0), n);
        }
    }

    private static void endBelowZero() {
        for (int length : new int[] {0, 1, 30}) {
            for (int n : new int[] {-1, -20, Integer.MIN_VALUE, Integer.MIN_VALUE + 1}) {
                refusedEnd(length, n);
            }
        }
    }

    private static void endAboveLength() {
        for (int length : new int[] {0, 1, 19, 20, 30}) {
            for (int n : new int[] {length + 1, length + 20, 65536, Integer.MAX_VALUE}) {
                refusedEnd(length, n);
            }
        }
    }

    private static void refusedEnd(int length, int n) {
        DigestBox box = new DigestBox();
        Boxes.tape(box, Boxes.sample(length));
        Check.throwing("end(" + n + ") of " + length, IllegalArgumentException.class, () -> box.end(n));
        Check.same("the TAPE's length", box.count(0), length);
        Check.same("hash of the TAPE", hashOfTape(box), hashOf(Boxes.sample(length)));
    }

    private static void endAtZero() {
        DigestBox box = new DigestBox();
        Check.same("of an empty TAPE", box.end(0), 0);
        box.feed(1, 2, 3, 4, 5);
        Check.same("of 20", box.end(0), 0);
        Check.same("the TAPE's length", box.count(0), 0);
        Check.throwing("end(1) behind it", IllegalArgumentException.class, () -> box.end(1));
        Check.same("hash of the TAPE", hashOfTape(box), "e3b0c44298fc1c14");
    }

    private static void endAtLength() {
        for (int length : new int[] {1, 20, 31}) {
            DigestBox box = new DigestBox();
            Boxes.tape(box, Boxes.sample(length));
            Check.same("end(" + length + ")", box.end(length), length);
            Check.same("hash of the TAPE", hashOfTape(box), hashOf(Boxes.sample(length)));
        }
    }

    private static void firstBytesStay() {
        for (int n : new int[] {1, 19, 20, 21, 39}) {
            DigestBox box = new DigestBox();
            Boxes.tape(box, Boxes.sample(40));
            box.end(n);
            Check.same("hash of " + n, hashOfTape(box), hashOf(Arrays.copyOf(Boxes.sample(40), n)));
        }
    }

    private static void cutBytesAreGone() {
        DigestBox box = new DigestBox();
        Boxes.tape(box, Boxes.sample(60));
        box.end(5);
        Check.throwing("end(6)", IllegalArgumentException.class, () -> box.end(6));
        box.feed(0, 0, 0, 0, 0);
        byte[] due = Arrays.copyOf(Arrays.copyOf(Boxes.sample(60), 5), 25);
        Check.same("hash of 5 and 20 others", hashOfTape(box), hashOf(due));
    }

    private static String hashOfTape(DigestBox box) {
        box.restart(0);
        box.more(0);
        box.peek(0);
        return Boxes.resultHex(box, 0, 8);
    }

    private static String hashOf(byte[] bytes) {
        ReferenceBox due = new ReferenceBox();
        due.tape(bytes);
        due.more(0);
        due.peek(0);
        return due.resultHex(0, 8);
    }
}
