/** The boundary cases of result and count (promises 12 and 13): a test for each sentence. */
public final class AnswerBoundariesTest {
    private static final int[] HASH = {32, 48, 64};

    public static void main(String[] args) {
        Check.test("result: an empty RESULT has none", AnswerBoundariesTest::noneOfEmpty);
        Check.test("result: i below 0", AnswerBoundariesTest::noneBelowZero);
        Check.test("result: i = the length or above", AnswerBoundariesTest::noneAtLength);
        Check.test("result: the first and the last byte", AnswerBoundariesTest::firstAndLast);
        Check.test("result: the last byte of the longest", AnswerBoundariesTest::lastOfLongest);
        Check.test("result: bytes are 0 .. 255", AnswerBoundariesTest::bytesAreNotNegative);
        Check.test("result: nothing changes", AnswerBoundariesTest::resultChangesNothing);
        Check.test("count: 0, the TAPE's length", AnswerBoundariesTest::countOfTape);
        Check.test("count: 1, THE KEY's length", AnswerBoundariesTest::countOfKey);
        Check.test("count: 2, THE RESULT's length", AnswerBoundariesTest::countOfResult);
        Check.test("count: 3, 4, 5, BLOCKS of KIND 0, 1, 2", AnswerBoundariesTest::countOfBlocks);
        Check.test("count: else -1", AnswerBoundariesTest::countOfElse);
        Check.test("count: nothing changes", AnswerBoundariesTest::countChangesNothing);
        Check.end();
    }

    private static void noneOfEmpty() {
        DigestBox box = new DigestBox();
        for (int i : new int[] {0, 1, -1, 31, Integer.MIN_VALUE, Integer.MAX_VALUE}) {
            none(box, i);
        }
        box.feed(1, 2, 3, 4, 5);
        none(box, 0);
        box.key();
        none(box, 0);
    }

    private static void noneBelowZero() {
        DigestBox box = usedBox();
        for (int i : new int[] {-1, -2, -64, -256, Integer.MIN_VALUE, Integer.MIN_VALUE + 1}) {
            none(box, i);
        }
    }

    private static void noneAtLength() {
        for (int kind = 0; kind < 3; kind++) {
            DigestBox box = new DigestBox();
            box.peek(kind);
            for (int i : new int[] {HASH[kind], HASH[kind] + 1, 256, Integer.MAX_VALUE}) {
                none(box, i);
            }
            box.expand(kind, 1);
            none(box, 1);
            box.expand(kind, 255 * HASH[kind]);
            none(box, 255 * HASH[kind]);
        }
    }

    private static void none(DigestBox box, int i) {
        Check.throwing("result(" + i + ") of " + box.count(2), IndexOutOfBoundsException.class, () -> box.result(i));
    }

    private static void firstAndLast() {
        int[][] ends = {{0xe3, 0x55}, {0x38, 0x5b}, {0xcf, 0x3e}};
        for (int kind = 0; kind < 3; kind++) {
            DigestBox box = new DigestBox();
            box.peek(kind);
            Check.same("first, kind " + kind, box.result(0), ends[kind][0]);
            Check.same("last, kind " + kind, box.result(HASH[kind] - 1), ends[kind][1]);
        }
    }

    private static void lastOfLongest() {
        for (int kind = 0; kind < 3; kind++) {
            int most = 255 * HASH[kind];
            DigestBox box = Boxes.withKeyAndTape(Boxes.sample(5), Boxes.sample(6));
            ReferenceBox due = ReferenceBox.withKeyAndTape(Boxes.sample(5), Boxes.sample(6));
            box.expand(kind, most);
            due.expand(kind, most);
            Check.same("kind " + kind, box.result(most - 1), due.result(most - 1));
        }
    }

    private static void bytesAreNotNegative() {
        DigestBox box = Boxes.withKeyAndTape(Boxes.sample(5), Boxes.sample(6));
        box.expand(0, 400);
        int high = 0;
        for (int i = 0; i < 400; i++) {
            int value = box.result(i);
            Check.same("byte " + i + " lies in 0 .. 255", String.valueOf(value >= 0 && value <= 255), "true");
            high += value > 127 ? 1 : 0;
        }
        Check.same("some lie above 127", String.valueOf(high > 100), "true");
    }

    private static void resultChangesNothing() {
        DigestBox box = usedBox();
        for (int i = 0; i < 64; i++) {
            box.result(63 - i);
        }
        Check.same("all of it", Boxes.everything(box), Boxes.everything(usedBox()));
    }

    private static void countOfTape() {
        DigestBox box = new DigestBox();
        Check.same("at first", box.count(0), 0);
        box.feed(1, 2, 3, 4, 5);
        Check.same("after feed", box.count(0), 20);
        box.end(19);
        Check.same("after end", box.count(0), 19);
        box.more(0);
        Check.same("after more", box.count(0), 0);
    }

    private static void countOfKey() {
        DigestBox box = new DigestBox();
        Check.same("at first", box.count(1), 0);
        box.feed(1, 2, 3, 4, 5);
        box.key();
        Check.same("after key", box.count(1), 20);
        box.peek(1);
        box.keep();
        Check.same("after keep", box.count(1), 48);
        box.key();
        Check.same("after key of an empty TAPE", box.count(1), 0);
    }

    private static void countOfResult() {
        DigestBox box = new DigestBox();
        Check.same("at first", box.count(2), 0);
        box.peek(0);
        Check.same("after peek", box.count(2), 32);
        box.hmac(1);
        Check.same("after hmac", box.count(2), 48);
        box.expand(2, 16320);
        Check.same("after expand", box.count(2), 16320);
        box.feed(1, 2, 3, 4, 5);
        box.expandLabel(2, 1, 20);
        Check.same("after expandLabel", box.count(2), 1);
    }

    private static void countOfBlocks() {
        DigestBox box = new DigestBox();
        for (int kind = 0; kind < 3; kind++) {
            for (int times = 0; times <= kind; times++) {
                box.peek(kind);
            }
        }
        Check.same("KIND 0", box.count(3), 1);
        Check.same("KIND 1", box.count(4), 2);
        Check.same("KIND 2", box.count(5), 3);
    }

    private static void countOfElse() {
        DigestBox[] boxes = {new DigestBox(), usedBox()};
        for (DigestBox box : boxes) {
            for (int what : new int[] {-1, -2, 6, 7, 256, 65536, Integer.MIN_VALUE, Integer.MAX_VALUE}) {
                Check.same("count(" + what + ")", Check.outcome(() -> box.count(what)), "-1");
            }
        }
    }

    private static void countChangesNothing() {
        DigestBox box = usedBox();
        for (int what = -3; what < 10; what++) {
            box.count(what);
        }
        Check.same("all of it", Boxes.everything(box), Boxes.everything(usedBox()));
    }

    /** A TAPE, a KEY, a RESULT of 64 bytes, and RUNS. */
    private static DigestBox usedBox() {
        DigestBox box = Boxes.withKeyAndTape(Boxes.sample(140), Boxes.sample(9));
        for (int kind = 0; kind < 3; kind++) {
            Boxes.tape(box, Boxes.sample(150 + kind));
            box.more(kind);
        }
        Boxes.tape(box, Boxes.sample(9));
        box.hmac(2);
        Boxes.tape(box, Boxes.sample(33));
        return box;
    }
}
