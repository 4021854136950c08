import java.util.Arrays;
import java.util.NoSuchElementException;

/** The boundary cases of expand and expandLabel (promises 10 and 11): a test for each sentence. */
public final class ExpandBoundariesTest {
    private static final int[] WRONG_KINDS = {-1, 3, 4, Integer.MIN_VALUE, Integer.MAX_VALUE};
    private static final int[] HASH = {32, 48, 64};
    private static final int[] MOST = {8160, 12240, 16320};
    private static final int[] TOO_LARGE = {8161, 12241, 16321};

    public static void main(String[] args) {
        Check.test("expand: n = 1", ExpandBoundariesTest::oneByte);
        Check.test("expand: n about whole hashes", ExpandBoundariesTest::aboutWholeHashes);
        Check.test("expand: n = 255 times the hash's length", ExpandBoundariesTest::mostBytes);
        Check.test("expand: n below 1", ExpandBoundariesTest::lessThanOne);
        Check.test("expand: n above 255 times the hash's length", ExpandBoundariesTest::moreThanMost);
        Check.test("expand: the limit is the KIND's own", ExpandBoundariesTest::limitOfEachKind);
        Check.test("expand: a KEY of any length", ExpandBoundariesTest::keysOfAnyLength);
        Check.test("expand: an empty info and a long one", ExpandBoundariesTest::infosOfAnyLength);
        Check.test("expand: fewer bytes are the first of more", ExpandBoundariesTest::fewerAreTheFirst);
        Check.test("expand: a shorter RESULT after a longer one", ExpandBoundariesTest::shorterResult);
        Check.test("expand: KEY and RUNS stay", ExpandBoundariesTest::expandLeavesOthers);
        Check.test("expand: no such KIND", ExpandBoundariesTest::expandWithoutKind);
        Check.test("expandLabel: n = 1", ExpandBoundariesTest::labelOneByte);
        Check.test("expandLabel: n about 256", ExpandBoundariesTest::labelAbout256Bytes);
        Check.test("expandLabel: n = 255 times the hash's length", ExpandBoundariesTest::labelMostBytes);
        Check.test("expandLabel: n below 1", ExpandBoundariesTest::labelLessThanOne);
        Check.test("expandLabel: n above 255 times the hash's length", ExpandBoundariesTest::labelMoreThanMost);
        Check.test("expandLabel: k = 1", ExpandBoundariesTest::shortestLabel);
        Check.test("expandLabel: k = 249", ExpandBoundariesTest::longestLabel);
        Check.test("expandLabel: k below 1", ExpandBoundariesTest::noLabel);
        Check.test("expandLabel: k above 249", ExpandBoundariesTest::labelTooLong);
        Check.test("expandLabel: k above the TAPE's length", ExpandBoundariesTest::labelBeyondTape);
        Check.test("expandLabel: k = the TAPE's length", ExpandBoundariesTest::emptyContext);
        Check.test("expandLabel: a context of 255", ExpandBoundariesTest::longestContext);
        Check.test("expandLabel: a context longer than 255", ExpandBoundariesTest::contextTooLong);
        Check.test("expandLabel: an empty TAPE", ExpandBoundariesTest::labelOfEmptyTape);
        Check.test("expandLabel: label and context are told apart", ExpandBoundariesTest::labelIsNotContext);
        Check.test("expandLabel: nothing is left of an earlier one", ExpandBoundariesTest::labelAfterLabel);
        Check.test("expandLabel: a KEY of any length", ExpandBoundariesTest::labelWithAnyKey);
        Check.test("expandLabel: KEY and RUNS stay", ExpandBoundariesTest::labelLeavesOthers);
        Check.test("expandLabel: no such KIND", ExpandBoundariesTest::labelWithoutKind);
        Check.end();
    }

    private static void oneByte() {
        for (int kind = 0; kind < 3; kind++) {
            expanded(kind, 1, 20, 20);
        }
    }

    private static void aboutWholeHashes() {
        for (int kind = 0; kind < 3; kind++) {
            for (int hashes = 1; hashes <= 4; hashes++) {
                for (int more = -1; more <= 1; more++) {
                    expanded(kind, hashes * HASH[kind] + more, 20, 20);
                }
            }
        }
    }

    private static void mostBytes() {
        for (int kind = 0; kind < 3; kind++) {
            expanded(kind, MOST[kind] - 1, 20, 20);
            expanded(kind, MOST[kind], 20, 20);
        }
    }

    private static void lessThanOne() {
        for (int kind = 0; kind < 3; kind++) {
            for (int n : new int[] {0, -1, -HASH[kind], Integer.MIN_VALUE, Integer.MIN_VALUE + 1}) {
                refusedExpand(kind, n);
            }
        }
    }

    private static void moreThanMost() {
        for (int kind = 0; kind < 3; kind++) {
            for (int n : new int[] {TOO_LARGE[kind], 65536, 65537, Integer.MAX_VALUE - 1, Integer.MAX_VALUE}) {
                refusedExpand(kind, n);
            }
        }
    }

    private static void limitOfEachKind() {
        DigestBox box = new DigestBox();
        Check.throwing("8161 of 32 each", IllegalArgumentException.class, () -> box.expand(0, 8161));
        Check.same("8161 of 48 each", box.expand(1, 8161), 8161);
        Check.throwing("12241 of 48 each", IllegalArgumentException.class, () -> box.expand(1, 12241));
        Check.same("12241 of 64 each", box.expand(2, 12241), 12241);
    }

    private static void keysOfAnyLength() {
        for (int kind = 0; kind < 3; kind++) {
            for (int key : new int[] {0, 1, HASH[kind] - 1, HASH[kind], 63, 64, 65, 127, 128, 129, 1000}) {
                expanded(kind, 3 * HASH[kind], key, 20);
            }
        }
    }

    private static void infosOfAnyLength() {
        for (int kind = 0; kind < 3; kind++) {
            for (int info : new int[] {0, 1, 54, 55, 63, 64, 110, 111, 127, 128, 1000}) {
                expanded(kind, 3 * HASH[kind], 20, info);
            }
        }
    }

    private static void fewerAreTheFirst() {
        for (int kind = 0; kind < 3; kind++) {
            DigestBox most = Boxes.withKeyAndTape(Boxes.sample(7), Boxes.sample(8));
            most.expand(kind, MOST[kind]);
            for (int n : new int[] {1, HASH[kind], HASH[kind] + 1, 100}) {
                DigestBox fewer = Boxes.withKeyAndTape(Boxes.sample(7), Boxes.sample(8));
                fewer.expand(kind, n);
                Check.same(n + " bytes", Boxes.resultHex(fewer), Boxes.resultHex(most, 0, n));
            }
        }
    }

    private static void shorterResult() {
        for (int kind = 0; kind < 3; kind++) {
            DigestBox box = new DigestBox();
            box.expand(kind, MOST[kind]);
            Check.same("the longer one's length", box.count(2), MOST[kind]);
            Check.same("its answer", box.expand(kind, 3), 3);
            Check.same("its length", box.count(2), 3);
            Check.throwing("none behind it", IndexOutOfBoundsException.class, () -> box.result(3));
        }
    }

    private static void expandLeavesOthers() {
        for (int kind = 0; kind < 3; kind++) {
            DigestBox box = withRuns();
            box.expand(kind, 200);
            othersStay(box);
        }
    }

    private static void expandWithoutKind() {
        DigestBox box = withRuns();
        for (int kind : WRONG_KINDS) {
            Check.throwing("expand(" + kind + ", 1)", NoSuchElementException.class, () -> box.expand(kind, 1));
        }
        Check.same("all else", Boxes.everything(box), Boxes.everything(withRuns()));
    }

    private static void labelOneByte() {
        for (int kind = 0; kind < 3; kind++) {
            labelled(kind, 1, 5, 15);
        }
    }

    /** Where n needs its second byte, which is a part of what is hashed. */
    private static void labelAbout256Bytes() {
        for (int kind = 0; kind < 3; kind++) {
            for (int n : new int[] {127, 128, 255, 256, 257, 511, 512}) {
                labelled(kind, n, 5, 15);
            }
        }
    }

    private static void labelMostBytes() {
        for (int kind = 0; kind < 3; kind++) {
            labelled(kind, MOST[kind] - 1, 5, 15);
            labelled(kind, MOST[kind], 5, 15);
        }
    }

    private static void labelLessThanOne() {
        for (int kind = 0; kind < 3; kind++) {
            for (int n : new int[] {0, -1, -HASH[kind], Integer.MIN_VALUE, Integer.MIN_VALUE + 1}) {
                refusedLabel(kind, n, 5, 20);
            }
        }
    }

    private static void labelMoreThanMost() {
        for (int kind = 0; kind < 3; kind++) {
            for (int n : new int[] {TOO_LARGE[kind], 65536, 65537, Integer.MAX_VALUE - 1, Integer.MAX_VALUE}) {
                refusedLabel(kind, n, 5, 20);
            }
        }
    }

    private static void shortestLabel() {
        for (int kind = 0; kind < 3; kind++) {
            labelled(kind, 20, 1, 0);
            labelled(kind, 20, 1, 1);
            labelled(kind, 20, 1, 30);
        }
    }

    private static void longestLabel() {
        for (int kind = 0; kind < 3; kind++) {
            labelled(kind, 20, 248, 0);
            labelled(kind, 20, 249, 0);
            labelled(kind, 20, 249, 1);
            labelled(kind, 20, 249, 255);
        }
    }

    private static void noLabel() {
        for (int kind = 0; kind < 3; kind++) {
            for (int k : new int[] {0, -1, -7, -249, Integer.MIN_VALUE, Integer.MIN_VALUE + 1}) {
                refusedLabel(kind, 20, k, 20);
                refusedLabel(kind, 20, k, 0);
            }
        }
    }

    private static void labelTooLong() {
        for (int kind = 0; kind < 3; kind++) {
            for (int k : new int[] {250, 251, 256, 257, 300}) {
                refusedLabel(kind, 20, k, 300);
            }
            refusedLabel(kind, 20, 250, 250);
        }
    }

    private static void labelBeyondTape() {
        for (int kind = 0; kind < 3; kind++) {
            for (int tape : new int[] {1, 19, 20, 248}) {
                refusedLabel(kind, 20, tape + 1, tape);
            }
            refusedLabel(kind, 20, 249, 20);
            refusedLabel(kind, 20, Integer.MAX_VALUE, 20);
        }
    }

    private static void emptyContext() {
        for (int kind = 0; kind < 3; kind++) {
            for (int k : new int[] {1, 2, 19, 20, 21, 249}) {
                labelled(kind, 20, k, 0);
            }
        }
    }

    private static void longestContext() {
        for (int kind = 0; kind < 3; kind++) {
            for (int context : new int[] {127, 128, 254, 255}) {
                labelled(kind, 20, 1, context);
                labelled(kind, 20, 100, context);
            }
        }
    }

    private static void contextTooLong() {
        for (int kind = 0; kind < 3; kind++) {
            for (int k : new int[] {1, 100, 249}) {
                refusedLabel(kind, 20, k, k + 256);
                refusedLabel(kind, 20, k, k + 257);
                refusedLabel(kind, 20, k, k + 600);
            }
        }
    }

    private static void labelOfEmptyTape() {
        for (int kind = 0; kind < 3; kind++) {
            for (int k : new int[] {0, 1, -1, 249, 250}) {
                refusedLabel(kind, 20, k, 0);
            }
        }
    }

    private static void labelIsNotContext() {
        String[] found = new String[20];
        for (int k = 1; k <= 20; k++) {
            DigestBox box = Boxes.withKeyAndTape(Boxes.sample(7), new byte[20]);
            box.expandLabel(0, 20, k);
            found[k - 1] = Boxes.resultHex(box);
        }
        Check.same("20 different RESULTS of one TAPE", Arrays.stream(found).distinct().count(), 20);
    }

    private static void labelAfterLabel() {
        for (int kind = 0; kind < 3; kind++) {
            DigestBox box = Boxes.withKeyAndTape(Boxes.sample(20), Boxes.sample(260));
            box.expandLabel(kind, 300, 200);
            Boxes.tape(box, Boxes.sample(3));
            box.expandLabel(kind, 20, 2);
            DigestBox due = Boxes.withKeyAndTape(Boxes.sample(20), Boxes.sample(3));
            due.expandLabel(kind, 20, 2);
            Check.same("a short one after a long one", Boxes.resultHex(box), Boxes.resultHex(due));
        }
    }

    private static void labelWithAnyKey() {
        for (int kind = 0; kind < 3; kind++) {
            for (int key : new int[] {0, 1, HASH[kind], 63, 64, 65, 127, 128, 129, 1000}) {
                labelled(kind, 2 * HASH[kind] + 1, 5, 15, key);
            }
        }
    }

    private static void labelLeavesOthers() {
        for (int kind = 0; kind < 3; kind++) {
            DigestBox box = withRuns();
            box.expandLabel(kind, 200, 10);
            othersStay(box);
        }
    }

    private static void labelWithoutKind() {
        DigestBox box = withRuns();
        for (int kind : WRONG_KINDS) {
            Check.throwing("expandLabel(" + kind + ", 1, 1)", NoSuchElementException.class,
                    () -> box.expandLabel(kind, 1, 1));
        }
        Check.same("all else", Boxes.everything(box), Boxes.everything(withRuns()));
    }

    /** A KEY of 150 bytes, RUNS of 70 each, a TAPE of 30. */
    private static DigestBox withRuns() {
        DigestBox box = Boxes.withKeyAndTape(Boxes.sample(150), new byte[0]);
        for (int kind = 0; kind < 3; kind++) {
            Boxes.tape(box, Boxes.sample(70));
            box.more(kind);
        }
        Boxes.tape(box, Boxes.sample(30));
        return box;
    }

    private static void othersStay(DigestBox box) {
        DigestBox due = withRuns();
        due.end(0);
        for (int kind = 0; kind < 3; kind++) {
            Check.same("the RUN's length", box.more(kind), 70);
            box.peek(kind);
            due.peek(kind);
            Check.same("the RUN's hash", Boxes.resultHex(box, 0, 8), Boxes.resultHex(due, 0, 8));
        }
        Check.same("THE KEY's length", box.count(1), 150);
        box.hmac(0);
        due.hmac(0);
        Check.same("HMAC with THE KEY", Boxes.resultHex(box), Boxes.resultHex(due));
    }

    private static void expanded(int kind, int n, int key, int info) {
        DigestBox box = Boxes.withKeyAndTape(Boxes.sample(key), Boxes.sample(info));
        ReferenceBox due = ReferenceBox.withKeyAndTape(Boxes.sample(key), Boxes.sample(info));
        String what = "expand(" + kind + ", " + n + "), a key of " + key + ", an info of " + info;
        Check.same(what, box.expand(kind, n), n);
        due.expand(kind, n);
        Check.same(what + ", counts", Boxes.counts(box), due.counts());
        sameEnds(what, box, due, n);
    }

    private static void labelled(int kind, int n, int k, int context) {
        labelled(kind, n, k, context, 20);
    }

    private static void labelled(int kind, int n, int k, int context, int key) {
        byte[] tape = Boxes.sample(k + context);
        DigestBox box = Boxes.withKeyAndTape(Boxes.sample(key), tape);
        ReferenceBox due = ReferenceBox.withKeyAndTape(Boxes.sample(key), labelInfo(n, k, tape));
        String what = "expandLabel(" + kind + ", " + n + ", " + k + "), a context of " + context;
        Check.same(what, box.expandLabel(kind, n, k), n);
        due.expand(kind, n);
        Check.same(what + ", counts", Boxes.counts(box), due.counts());
        sameEnds(what, box, due, n);
    }

    /** RFC 8446, 7.1: the length in two bytes, the label and the context, each behind a byte with its own length. */
    private static byte[] labelInfo(int n, int k, byte[] tape) {
        byte[] info = new byte[10 + tape.length];
        byte[] head = {(byte) (n / 256), (byte) (n % 256), (byte) (6 + k), 't', 'l', 's', '1', '3', ' '};
        System.arraycopy(head, 0, info, 0, 9);
        System.arraycopy(tape, 0, info, 9, k);
        info[9 + k] = (byte) (tape.length - k);
        System.arraycopy(tape, k, info, 10 + k, tape.length - k);
        return info;
    }

    /** The first and last bytes of a RESULT, and none behind them. */
    private static void sameEnds(String what, DigestBox box, ReferenceBox due, int n) {
        int ends = Math.min(n, 140);
        Check.same(what + ", first", Boxes.resultHex(box, 0, ends), due.resultHex(0, ends));
        Check.same(what + ", last", Boxes.resultHex(box, n - ends, n), due.resultHex(n - ends, n));
        Check.throwing(what + ", behind", IndexOutOfBoundsException.class, () -> box.result(n));
    }

    private static void refusedExpand(int kind, int n) {
        DigestBox box = Boxes.withKeyAndTape(Boxes.sample(9), Boxes.sample(11));
        Check.throwing("expand(" + kind + ", " + n + ")", IllegalArgumentException.class, () -> box.expand(kind, n));
        DigestBox due = Boxes.withKeyAndTape(Boxes.sample(9), Boxes.sample(11));
        Check.same("all else", Boxes.everything(box), Boxes.everything(due));
    }

    private static void refusedLabel(int kind, int n, int k, int tape) {
        DigestBox box = Boxes.withKeyAndTape(Boxes.sample(9), Boxes.sample(tape));
        Check.throwing("expandLabel(" + kind + ", " + n + ", " + k + "), a TAPE of " + tape,
                IllegalArgumentException.class, () -> box.expandLabel(kind, n, k));
        DigestBox due = Boxes.withKeyAndTape(Boxes.sample(9), Boxes.sample(tape));
        Check.same("all else", Boxes.everything(box), Boxes.everything(due));
    }
}
