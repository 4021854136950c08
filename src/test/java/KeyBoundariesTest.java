import java.util.Arrays;
import java.util.NoSuchElementException;

/** The boundary cases of key, keep and hmac (promises 7, 8 and 9): a test for each sentence. */
public final class KeyBoundariesTest {
    private static final int[] WRONG_KINDS = {-1, 3, 4, Integer.MIN_VALUE, Integer.MAX_VALUE};
    private static final int[] HASH = {32, 48, 64};
    private static final int[] BLOCK = {64, 128, 128};

    public static void main(String[] args) {
        Check.test("key: an empty TAPE", KeyBoundariesTest::emptyKey);
        Check.test("key: its answer is the length", KeyBoundariesTest::keyAnswersLength);
        Check.test("key: THE KEY is the TAPE as it was", KeyBoundariesTest::laterTapeLeavesKey);
        Check.test("key: a shorter one replaces a longer one", KeyBoundariesTest::shorterKey);
        Check.test("key: the longest", KeyBoundariesTest::longestKey);
        Check.test("key: RUNS and RESULT stay", KeyBoundariesTest::keyLeavesOthers);
        Check.test("keep: an empty RESULT", KeyBoundariesTest::keepOfNothing);
        Check.test("keep: its answer is the length", KeyBoundariesTest::keepAnswersLength);
        Check.test("keep: THE RESULT stays", KeyBoundariesTest::resultStays);
        Check.test("keep: THE KEY is THE RESULT as it was", KeyBoundariesTest::laterResultLeavesKey);
        Check.test("keep: a RESULT that was cut off", KeyBoundariesTest::keepOfCutResult);
        Check.test("keep: the longest RESULT", KeyBoundariesTest::keepOfLongestResult);
        Check.test("hmac: an empty TAPE and an empty KEY", KeyBoundariesTest::macOfNothing);
        Check.test("hmac: keys about a block long", KeyBoundariesTest::keysAboutOneBlock);
        Check.test("hmac: a key longer than a block is its hash", KeyBoundariesTest::longKeyIsItsHash);
        Check.test("hmac: a key shorter than a block is filled with zeros", KeyBoundariesTest::shortKeyIsFilled);
        Check.test("hmac: texts about a block long", KeyBoundariesTest::textsAboutOneBlock);
        Check.test("hmac: THE KEY stays", KeyBoundariesTest::keyStays);
        Check.test("hmac: KEYS that change between HMACs", KeyBoundariesTest::changingKeys);
        Check.test("hmac: THE RESULT of before is replaced", KeyBoundariesTest::resultIsReplaced);
        Check.test("hmac: the RUNS stay", KeyBoundariesTest::hmacLeavesRuns);
        Check.test("hmac: no such KIND", KeyBoundariesTest::hmacWithoutKind);
        Check.end();
    }

    private static void emptyKey() {
        DigestBox box = Boxes.withKeyAndTape(Boxes.sample(30), new byte[0]);
        Check.same("its answer", box.key(), 0);
        Check.same("THE KEY's length", box.count(1), 0);
        sameMac("HMAC with no key", box, new byte[0], 0);
    }

    private static void keyAnswersLength() {
        DigestBox box = new DigestBox();
        for (int length : new int[] {0, 1, 20, 64, 65, 128, 129, 1000}) {
            Boxes.tape(box, Boxes.sample(length));
            Check.same("key", box.key(), length);
            Check.same("THE KEY's length", box.count(1), length);
            Check.same("the TAPE's length", box.count(0), 0);
        }
    }

    private static void laterTapeLeavesKey() {
        DigestBox box = Boxes.withKeyAndTape(Boxes.sample(40), Boxes.sample(60));
        box.end(0);
        Check.same("THE KEY's length", box.count(1), 40);
        sameMac("HMAC", box, Boxes.sample(40), 0);
    }

    private static void shorterKey() {
        for (int kind = 0; kind < 3; kind++) {
            DigestBox box = new DigestBox();
            for (int length : new int[] {300, 129, 128, 65, 64, 5, 1, 0}) {
                Boxes.key(box, Boxes.sample(length));
                sameMac("HMAC with a key of " + length, box, Boxes.sample(length), kind);
            }
        }
    }

    /** 500 feeds, end and key: 502 calls. */
    private static void longestKey() {
        DigestBox box = new DigestBox();
        Boxes.key(box, Boxes.sample(10000));
        Check.same("THE KEY's length", box.count(1), 10000);
        box.hmac(1);
        ReferenceBox due = ReferenceBox.withKeyAndTape(Boxes.sample(10000), new byte[0]);
        due.hmac(1);
        Check.same("HMAC", Boxes.resultHex(box, 0, 6), due.resultHex(0, 6));
    }

    private static void keyLeavesOthers() {
        DigestBox box = new DigestBox();
        for (int kind = 0; kind < 3; kind++) {
            Boxes.tape(box, Boxes.sample(70));
            box.more(kind);
        }
        box.peek(0);
        String before = Boxes.resultHex(box);
        Boxes.key(box, Boxes.sample(90));
        Check.same("THE RESULT", Boxes.resultHex(box), before);
        for (int kind = 0; kind < 3; kind++) {
            Check.same("the RUN's length", box.more(kind), 70);
        }
    }

    private static void keepOfNothing() {
        DigestBox box = Boxes.withKeyAndTape(Boxes.sample(30), new byte[0]);
        Check.same("its answer", box.keep(), 0);
        Check.same("THE KEY's length", box.count(1), 0);
        sameMac("HMAC with no key", box, new byte[0], 2);
    }

    private static void keepAnswersLength() {
        for (int kind = 0; kind < 3; kind++) {
            DigestBox box = new DigestBox();
            box.peek(kind);
            Check.same("keep of a hash", box.keep(), HASH[kind]);
            box.expand(kind, 1);
            Check.same("keep of one byte", box.keep(), 1);
            Check.same("THE KEY's length", box.count(1), 1);
        }
    }

    private static void resultStays() {
        DigestBox box = new DigestBox();
        box.feed(1, 2, 3, 4, 5);
        box.expand(1, 60);
        box.feed(6, 7, 8, 9, 10);
        String before = Boxes.resultHex(box);
        Check.same("its answer", box.keep(), 60);
        Check.same("all counts", Boxes.counts(box), "20 60 60 0 8 0");
        Check.same("its bytes", Boxes.resultHex(box), before);
        Check.same("keep once more", box.keep(), 60);
    }

    private static void laterResultLeavesKey() {
        DigestBox box = new DigestBox();
        box.peek(1);
        byte[] key = Check.bytes(Boxes.resultHex(box));
        box.keep();
        box.peek(0);
        Check.same("THE KEY's length", box.count(1), 48);
        sameMac("HMAC", box, key, 0);
        sameMac("HMAC after an HMAC", box, key, 2);
    }

    private static void keepOfCutResult() {
        DigestBox box = new DigestBox();
        box.expand(0, 33);
        byte[] key = Check.bytes(Boxes.resultHex(box));
        Check.same("its answer", box.keep(), 33);
        sameMac("HMAC with 33 bytes", box, key, 0);
    }

    private static void keepOfLongestResult() {
        for (int kind = 0; kind < 3; kind++) {
            int most = 255 * HASH[kind];
            DigestBox box = Boxes.withKeyAndTape(Boxes.sample(9), Boxes.sample(9));
            ReferenceBox due = ReferenceBox.withKeyAndTape(Boxes.sample(9), Boxes.sample(9));
            box.expand(kind, most);
            due.expand(kind, most);
            Check.same("its answer", box.keep(), most);
            due.keep();
            for (int with = 0; with < 3; with++) {
                box.hmac(with);
                due.hmac(with);
                Check.same("HMAC, kind " + with, Boxes.resultHex(box), due.resultHex(0, HASH[with]));
            }
            Check.same("all counts", Boxes.counts(box), due.counts());
        }
    }

    private static void macOfNothing() {
        String[] due = {"b613679a0814d9ec", "6c1f2ee938fad2e2", "b936cee86c9f87aa"};
        for (int kind = 0; kind < 3; kind++) {
            DigestBox box = new DigestBox();
            Check.same("its answer", box.hmac(kind), HASH[kind]);
            Check.same("its bytes", Boxes.resultHex(box, 0, 8), due[kind]);
        }
    }

    private static void keysAboutOneBlock() {
        for (int kind = 0; kind < 3; kind++) {
            for (int length = BLOCK[kind] - 20; length <= BLOCK[kind] + 20; length++) {
                DigestBox box = Boxes.withKeyAndTape(Boxes.sample(length), new byte[0]);
                sameMac("a key of " + length, box, Boxes.sample(length), kind);
            }
        }
    }

    private static void longKeyIsItsHash() {
        for (int kind = 0; kind < 3; kind++) {
            byte[] key = Boxes.sample(BLOCK[kind] + 1);
            DigestBox whole = Boxes.withKeyAndTape(key, Boxes.sample(25));
            whole.hmac(kind);
            DigestBox hashed = new DigestBox();
            Boxes.tape(hashed, key);
            hashed.more(kind);
            hashed.peek(kind);
            hashed.keep();
            Boxes.tape(hashed, Boxes.sample(25));
            hashed.hmac(kind);
            Check.same("HMAC, kind " + kind, Boxes.resultHex(whole), Boxes.resultHex(hashed));
        }
    }

    private static void shortKeyIsFilled() {
        for (int kind = 0; kind < 3; kind++) {
            byte[] key = Boxes.sample(BLOCK[kind] - 1);
            DigestBox bare = Boxes.withKeyAndTape(key, Boxes.sample(25));
            DigestBox filled = Boxes.withKeyAndTape(Arrays.copyOf(key, BLOCK[kind]), Boxes.sample(25));
            DigestBox tooLong = Boxes.withKeyAndTape(Arrays.copyOf(key, BLOCK[kind] + 1), Boxes.sample(25));
            bare.hmac(kind);
            filled.hmac(kind);
            tooLong.hmac(kind);
            String due = Boxes.resultHex(bare);
            Check.same("a zero more, kind " + kind, Boxes.resultHex(filled), due);
            Check.same("two zeros more differ", String.valueOf(Boxes.resultHex(tooLong).equals(due)), "false");
        }
    }

    private static void textsAboutOneBlock() {
        for (int kind = 0; kind < 3; kind++) {
            for (int length = BLOCK[kind] - 20; length <= BLOCK[kind] + 2; length++) {
                DigestBox box = Boxes.withKeyAndTape(Boxes.sample(31), Boxes.sample(length));
                ReferenceBox due = ReferenceBox.withKeyAndTape(Boxes.sample(31), Boxes.sample(length));
                box.hmac(kind);
                due.hmac(kind);
                Check.same("a text of " + length, Boxes.resultHex(box), due.resultHex(0, HASH[kind]));
            }
        }
    }

    private static void keyStays() {
        for (int kind = 0; kind < 3; kind++) {
            DigestBox box = Boxes.withKeyAndTape(Boxes.sample(BLOCK[kind] + 9), new byte[0]);
            for (int times = 0; times < 3; times++) {
                sameMac("HMAC " + times, box, Boxes.sample(BLOCK[kind] + 9), kind);
                Check.same("its length", box.count(1), BLOCK[kind] + 9);
            }
        }
    }

    private static void changingKeys() {
        DigestBox box = new DigestBox();
        int[] lengths = {10, 200, 0, 129, 64, 65};
        for (int i = 0; i < lengths.length; i++) {
            Boxes.key(box, Boxes.sample(lengths[i]));
            sameMac("HMAC with " + lengths[i], box, Boxes.sample(lengths[i]), i % 3);
            sameMac("HMAC with " + lengths[i], box, Boxes.sample(lengths[i]), (i + 1) % 3);
        }
    }

    private static void resultIsReplaced() {
        DigestBox box = new DigestBox();
        box.expand(2, 500);
        Check.same("its answer", box.hmac(0), 32);
        Check.same("its length", box.count(2), 32);
        Check.throwing("none behind it", IndexOutOfBoundsException.class, () -> box.result(32));
        Check.same("a longer one", box.hmac(2), 64);
        Check.same("its length", box.count(2), 64);
    }

    private static void hmacLeavesRuns() {
        for (int kind = 0; kind < 3; kind++) {
            DigestBox box = new DigestBox();
            Boxes.tape(box, Boxes.sample(200));
            box.more(kind);
            box.peek(kind);
            String before = Boxes.resultHex(box, 0, 8);
            Boxes.tape(box, Boxes.sample(30));
            box.hmac(kind);
            box.peek(kind);
            Check.same("hash", Boxes.resultHex(box, 0, 8), before);
            Check.same("length", box.more(kind), 200);
        }
    }

    private static void hmacWithoutKind() {
        DigestBox box = Boxes.withKeyAndTape(Boxes.sample(30), Boxes.sample(40));
        for (int kind : WRONG_KINDS) {
            Check.throwing("hmac(" + kind + ")", NoSuchElementException.class, () -> box.hmac(kind));
        }
        DigestBox due = Boxes.withKeyAndTape(Boxes.sample(30), Boxes.sample(40));
        Check.same("all else", Boxes.everything(box), Boxes.everything(due));
    }

    /** The HMAC of a short text is the one that this key makes; the box has an empty TAPE. */
    private static void sameMac(String what, DigestBox box, byte[] key, int kind) {
        Boxes.tape(box, Boxes.sample(13));
        box.hmac(kind);
        ReferenceBox due = ReferenceBox.withKeyAndTape(key, Boxes.sample(13));
        due.hmac(kind);
        Check.same(what + ", kind " + kind, Boxes.resultHex(box, 0, 16), due.resultHex(0, 16));
    }
}
