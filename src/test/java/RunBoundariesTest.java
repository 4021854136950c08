import java.util.Arrays;
import java.util.NoSuchElementException;

/** The boundary cases of restart, more and peek (promises 4, 5 and 6): a test for each sentence. */
public final class RunBoundariesTest {
    private static final int[] WRONG_KINDS = {-1, 3, 4, Integer.MIN_VALUE, Integer.MAX_VALUE};
    private static final int[] HASH = {32, 48, 64};
    private static final int[] BLOCK = {64, 128, 128};
    private static final String[] EMPTY_HASH = {"e3b0c44298fc1c14", "38b060a751ac9638", "cf83e1357eefb8bd"};

    public static void main(String[] args) {
        Check.test("restart: the RUN is empty again", RunBoundariesTest::restartEmpties);
        Check.test("restart: of an empty RUN", RunBoundariesTest::restartOfEmpty);
        Check.test("restart: other RUNS stay", RunBoundariesTest::restartLeavesOthers);
        Check.test("restart: TAPE, KEY and RESULT stay", RunBoundariesTest::restartLeavesRows);
        Check.test("restart: no such KIND", RunBoundariesTest::restartWithoutKind);
        Check.test("more: an empty TAPE", RunBoundariesTest::moreOfNothing);
        Check.test("more: how many bytes the RUN has", RunBoundariesTest::moreAnswersLength);
        Check.test("more: pieces of every length make one text", RunBoundariesTest::piecesMakeOneText);
        Check.test("more: the longest RUN", RunBoundariesTest::longestRun);
        Check.test("more: KEY and RESULT stay", RunBoundariesTest::moreLeavesRows);
        Check.test("more: no such KIND", RunBoundariesTest::moreWithoutKind);
        Check.test("peek: texts of every length up to three blocks", RunBoundariesTest::everyLength);
        Check.test("peek: an empty RUN", RunBoundariesTest::peekAtNothing);
        Check.test("peek: the RUN goes on", RunBoundariesTest::runGoesOn);
        Check.test("peek: twice is the same", RunBoundariesTest::peekTwice);
        Check.test("peek: a shorter RESULT after a longer one", RunBoundariesTest::shorterResult);
        Check.test("peek: the TAPE is no part of the RUN yet", RunBoundariesTest::tapeIsNoPart);
        Check.test("peek: the KEY stays", RunBoundariesTest::peekLeavesKey);
        Check.test("peek: HMACs between pieces leave the RUN", RunBoundariesTest::hmacsBetweenPieces);
        Check.test("peek: no such KIND", RunBoundariesTest::peekWithoutKind);
        Check.end();
    }

    private static void restartEmpties() {
        for (int kind = 0; kind < 3; kind++) {
            for (int length : new int[] {1, BLOCK[kind] - 1, BLOCK[kind], BLOCK[kind] + 1}) {
                DigestBox box = new DigestBox();
                add(box, kind, Boxes.sample(length));
                box.restart(kind);
                Check.same("hash after " + length, peeked(box, kind), EMPTY_HASH[kind]);
                Check.same("length after " + length, box.more(kind), 0);
                Check.same("length of a new text", add(box, kind, Boxes.sample(70)), 70);
                Check.same("hash of a new text", peeked(box, kind), hashOf(kind, Boxes.sample(70)));
            }
        }
    }

    private static void restartOfEmpty() {
        for (int kind = 0; kind < 3; kind++) {
            DigestBox box = new DigestBox();
            box.restart(kind);
            box.restart(kind);
            Check.same("hash", peeked(box, kind), EMPTY_HASH[kind]);
            Check.same("length", box.more(kind), 0);
        }
    }

    private static void restartLeavesOthers() {
        for (int restarted = 0; restarted < 3; restarted++) {
            DigestBox box = new DigestBox();
            for (int kind = 0; kind < 3; kind++) {
                add(box, kind, Boxes.sample(150));
            }
            box.restart(restarted);
            for (int kind = 0; kind < 3; kind++) {
                Check.same("length, kind " + kind, box.more(kind), kind == restarted ? 0 : 150);
                Check.same("hash, kind " + kind, peeked(box, kind),
                        kind == restarted ? EMPTY_HASH[kind] : hashOf(kind, Boxes.sample(150)));
            }
        }
    }

    private static void restartLeavesRows() {
        for (int kind = 0; kind < 3; kind++) {
            DigestBox box = withAllRows();
            box.restart(kind);
            Check.same("kind " + kind, Boxes.everything(box), Boxes.everything(withAllRows()));
        }
    }

    /** A TAPE, a KEY and a RESULT, but empty RUNS. */
    private static DigestBox withAllRows() {
        DigestBox box = Boxes.withKeyAndTape(Boxes.sample(33), Boxes.sample(12));
        box.hmac(1);
        Boxes.tape(box, Boxes.sample(29));
        return box;
    }

    private static void restartWithoutKind() {
        DigestBox box = withAllRows();
        for (int kind : WRONG_KINDS) {
            Check.throwing("restart(" + kind + ")", NoSuchElementException.class, () -> Boxes.restart(box, kind));
        }
        Check.same("all else", Boxes.everything(box), Boxes.everything(withAllRows()));
    }

    private static void moreOfNothing() {
        for (int kind = 0; kind < 3; kind++) {
            DigestBox box = new DigestBox();
            Check.same("an empty RUN", box.more(kind), 0);
            for (int length : new int[] {BLOCK[kind] - 1, BLOCK[kind], BLOCK[kind] + 1}) {
                box.restart(kind);
                add(box, kind, Boxes.sample(length));
                Check.same("a RUN of " + length, box.more(kind), length);
                Check.same("its hash", peeked(box, kind), hashOf(kind, Boxes.sample(length)));
            }
        }
    }

    private static void moreAnswersLength() {
        for (int kind = 0; kind < 3; kind++) {
            DigestBox box = new DigestBox();
            int length = 0;
            for (int piece : new int[] {1, 62, 1, 1, 63, 64, 65, 0, 127, 128, 129, 300}) {
                length += piece;
                Check.same("more of " + piece, add(box, kind, Boxes.sample(piece)), length);
            }
        }
    }

    private static void piecesMakeOneText() {
        for (int kind = 0; kind < 3; kind++) {
            byte[] text = Boxes.sample(2 * BLOCK[kind] + 7);
            for (int cut = 0; cut <= text.length; cut++) {
                DigestBox box = new DigestBox();
                add(box, kind, Arrays.copyOf(text, cut));
                add(box, kind, Arrays.copyOfRange(text, cut, text.length));
                Check.same("cut at " + cut, peeked(box, kind), hashOf(kind, text));
            }
        }
    }

    /** Seven pieces of 68 feeds each: nearly as many bytes as 512 calls can bring, and look at. */
    private static void longestRun() {
        for (int kind = 0; kind < 3; kind++) {
            DigestBox box = new DigestBox();
            byte[] text = new byte[0];
            for (int i = 1; i <= 7; i++) {
                byte[] piece = Boxes.sample(1360 - i);
                text = Arrays.copyOf(text, text.length + piece.length);
                System.arraycopy(piece, 0, text, text.length - piece.length, piece.length);
                Check.same("length", add(box, kind, piece), text.length);
            }
            Check.same("hash", peeked(box, kind), hashOf(kind, text));
        }
    }

    private static void moreLeavesRows() {
        for (int kind = 0; kind < 3; kind++) {
            DigestBox box = withAllRows();
            String before = Boxes.resultHex(box);
            box.more(kind);
            Check.same("THE RESULT", Boxes.resultHex(box), before);
            Boxes.tape(box, Boxes.sample(29));
            box.hmac(0);
            DigestBox due = withAllRows();
            due.hmac(0);
            Check.same("THE KEY", Boxes.resultHex(box), Boxes.resultHex(due));
        }
    }

    private static void moreWithoutKind() {
        DigestBox box = withAllRows();
        for (int kind : WRONG_KINDS) {
            Check.throwing("more(" + kind + ")", NoSuchElementException.class, () -> box.more(kind));
        }
        Check.same("all else", Boxes.everything(box), Boxes.everything(withAllRows()));
    }

    private static void everyLength() {
        for (int kind = 0; kind < 3; kind++) {
            for (int length = 0; length <= 3 * BLOCK[kind] + 1; length++) {
                DigestBox box = new DigestBox();
                add(box, kind, Boxes.sample(length));
                Check.same("peek's answer", box.peek(kind), HASH[kind]);
                Check.same("hash of " + length + ", kind " + kind, Boxes.resultHex(box),
                        wholeHashOf(kind, Boxes.sample(length)));
            }
        }
    }

    private static void peekAtNothing() {
        for (int kind = 0; kind < 3; kind++) {
            DigestBox box = new DigestBox();
            Check.same("peek's answer", box.peek(kind), HASH[kind]);
            Check.same("hash", Boxes.resultHex(box, 0, 8), EMPTY_HASH[kind]);
            Check.same("the RUN is still empty", box.more(kind), 0);
        }
    }

    private static void runGoesOn() {
        for (int kind = 0; kind < 3; kind++) {
            for (int length : new int[] {0, 1, BLOCK[kind] - 17, BLOCK[kind] - 8, BLOCK[kind] - 1, BLOCK[kind]}) {
                byte[] text = Boxes.sample(length + 30);
                DigestBox box = new DigestBox();
                add(box, kind, Arrays.copyOf(text, length));
                box.peek(kind);
                byte[] rest = Arrays.copyOfRange(text, length, text.length);
                Check.same("length behind a peek at " + length, add(box, kind, rest), text.length);
                Check.same("hash behind a peek at " + length, peeked(box, kind), hashOf(kind, text));
            }
        }
    }

    private static void peekTwice() {
        for (int kind = 0; kind < 3; kind++) {
            DigestBox box = new DigestBox();
            add(box, kind, Boxes.sample(BLOCK[kind] - 1));
            String first = peeked(box, kind);
            Check.same("the second", peeked(box, kind), first);
            Check.same("the third", peeked(box, kind), first);
        }
    }

    private static void shorterResult() {
        DigestBox box = new DigestBox();
        box.peek(2);
        box.peek(0);
        Check.same("its length", box.count(2), 32);
        Check.same("its bytes", Boxes.resultHex(box, 0, 8), EMPTY_HASH[0]);
        Check.throwing("none behind them", IndexOutOfBoundsException.class, () -> box.result(32));
        box.peek(1);
        Check.same("a longer one's length", box.count(2), 48);
        Check.throwing("none behind it", IndexOutOfBoundsException.class, () -> box.result(48));
    }

    private static void tapeIsNoPart() {
        for (int kind = 0; kind < 3; kind++) {
            DigestBox box = new DigestBox();
            box.feed(1, 2, 3, 4, 5);
            Check.same("hash", peeked(box, kind), EMPTY_HASH[kind]);
            Check.same("the TAPE's length", box.count(0), 20);
            Check.same("the TAPE comes to the RUN", box.more(kind), 20);
        }
    }

    private static void peekLeavesKey() {
        for (int kind = 0; kind < 3; kind++) {
            DigestBox box = withAllRows();
            box.peek(kind);
            Check.same("its length", box.count(1), 33);
            box.hmac(2);
            DigestBox due = withAllRows();
            due.hmac(2);
            Check.same("HMAC with it", Boxes.resultHex(box), Boxes.resultHex(due));
        }
    }

    private static void hmacsBetweenPieces() {
        for (int kind = 0; kind < 3; kind++) {
            DigestBox box = new DigestBox();
            byte[] text = Boxes.sample(2 * BLOCK[kind] + 9);
            add(box, kind, Arrays.copyOf(text, BLOCK[kind] - 5));
            Boxes.tape(box, Boxes.sample(50));
            box.hmac(kind);
            box.expand(kind, 3 * HASH[kind]);
            Boxes.tape(box, Boxes.sample(50));
            box.expandLabel(kind, 10, 10);
            add(box, kind, Arrays.copyOfRange(text, BLOCK[kind] - 5, text.length));
            Check.same("hash", peeked(box, kind), hashOf(kind, text));
        }
    }

    private static void peekWithoutKind() {
        DigestBox box = withAllRows();
        for (int kind : WRONG_KINDS) {
            Check.throwing("peek(" + kind + ")", NoSuchElementException.class, () -> box.peek(kind));
        }
        Check.same("all else", Boxes.everything(box), Boxes.everything(withAllRows()));
    }

    private static long add(DigestBox box, int kind, byte[] piece) {
        Boxes.tape(box, piece);
        return box.more(kind);
    }

    private static String peeked(DigestBox box, int kind) {
        box.peek(kind);
        return Boxes.resultHex(box, 0, 8);
    }

    /** Its first eight bytes, as peeked has them. */
    private static String hashOf(int kind, byte[] text) {
        return wholeHashOf(kind, text).substring(0, 16);
    }

    private static String wholeHashOf(int kind, byte[] text) {
        ReferenceBox due = new ReferenceBox();
        due.tape(text);
        due.more(kind);
        due.peek(kind);
        return due.resultHex(0, HASH[kind]);
    }
}
