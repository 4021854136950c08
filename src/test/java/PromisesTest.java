import java.util.Arrays;
import java.util.NoSuchElementException;

/** Each promise of the document: ordinary inputs, the edges it names, and wrong inputs. */
public final class PromisesTest {
    private static final int[] WRONG_KINDS = {-1, 3, Integer.MIN_VALUE, Integer.MAX_VALUE};
    private static final int[] HASH = ReferenceBox.HASH;
    private static final int[] BLOCK = ReferenceBox.BLOCK;

    private static final String EMPTY_256 = "e3b0c44298fc1c149afbf4c8996fb92427ae41e4649b934ca495991b7852b855";
    private static final String ABC_256 = "ba7816bf8f01cfea414140de5dae2223b00361a396177a9cb410ff61f20015ad";

    public static void main(String[] args) {
        promise1NewObject();
        promise1FirstOfTwoExceptions();
        promise2Feed();
        promise3End();
        promise4Restart();
        promise5More();
        promise6Peek();
        promise6BlocksOfPeek();
        promise7Key();
        promise8Keep();
        promise9Hmac();
        promise9KeyLengths();
        promise9ShorterKeyAfterLonger();
        promise10Expand();
        promise10LongKeyIsCountedForEachHmac();
        promise11ExpandLabel();
        promise11OneLabelAfterAnother();
        promise11Limits();
        promise12Result();
        promise13Count();
        wrongKinds();
        wholeLongResult();
        Check.end();
    }

    private static void promise1NewObject() {
        DigestBox box = new DigestBox();
        Check.same("1: counts of a new object", Boxes.counts(box), "0 0 0 0 0 0");
        Check.throwing("1: result(0)", IndexOutOfBoundsException.class, () -> box.result(0));
        for (int kind = 0; kind < 3; kind++) {
            int of = kind;
            Check.same("1: the RUN is empty", Check.outcome(() -> box.more(of)), "0");
        }
        box.feed(1, 2, 3, 4, 5);
        box.key();
        DigestBox other = new DigestBox();
        Check.same("1: objects share nothing", Boxes.counts(other), "0 0 0 0 0 0");
    }

    private static void promise1FirstOfTwoExceptions() {
        DigestBox box = new DigestBox();
        Check.throwing("1: expand(3, 0)", NoSuchElementException.class, () -> box.expand(3, 0));
        Check.throwing("1: expand(-1, 99999)", NoSuchElementException.class, () -> box.expand(-1, 99999));
        Check.throwing("1: expandLabel(3, 0, 0)", NoSuchElementException.class, () -> box.expandLabel(3, 0, 0));
        Check.throwing("1: expandLabel(-1, 1, 1)", NoSuchElementException.class, () -> box.expandLabel(-1, 1, 1));
    }

    private static void promise2Feed() {
        DigestBox box = new DigestBox();
        Check.same("2: feed answers the length", box.feed(0x61626380, -1, 0, 0, 0), 20);
        Check.same("2: feed comes to the end", box.feed(7, 7, 7, 7, 7), 40);
        box.end(3);
        box.more(0);
        box.peek(0);
        Check.same("2: the highest byte comes first", Boxes.resultHex(box), ABC_256);

        DigestBox order = new DigestBox();
        order.feed(0x00010203, 0x04050607, 0x08090a0b, 0x0c0d0e0f, 0xf0f1f2f3);
        ReferenceBox due = new ReferenceBox();
        due.feed(0x00010203, 0x04050607, 0x08090a0b, 0x0c0d0e0f, 0xf0f1f2f3);
        order.more(1);
        due.more(1);
        order.peek(1);
        due.peek(1);
        sameResult("2: the numbers come in their order", order, due);
    }

    private static void promise3End() {
        DigestBox box = new DigestBox();
        Check.same("3: end(0) of an empty TAPE", box.end(0), 0);
        Check.throwing("3: end(1) of an empty TAPE", IllegalArgumentException.class, () -> box.end(1));
        Boxes.tape(box, "abcdefgh".getBytes());
        Check.throwing("3: end(-1)", IllegalArgumentException.class, () -> box.end(-1));
        Check.throwing("3: end(least)", IllegalArgumentException.class, () -> box.end(Integer.MIN_VALUE));
        Check.throwing("3: end(9) of 8", IllegalArgumentException.class, () -> box.end(9));
        Check.throwing("3: end(most)", IllegalArgumentException.class, () -> box.end(Integer.MAX_VALUE));
        Check.same("3: what throws changes nothing", box.count(0), 8);
        Check.same("3: end(its length)", box.end(8), 8);
        Check.same("3: end(3)", box.end(3), 3);
        Check.same("3: the TAPE's length", box.count(0), 3);
        box.more(0);
        box.peek(0);
        Check.same("3: the first bytes stay", Boxes.resultHex(box), ABC_256);
    }

    private static void promise4Restart() {
        DigestBox box = new DigestBox();
        for (int kind = 0; kind < 3; kind++) {
            Boxes.tape(box, Boxes.sample(130));
            box.more(kind);
        }
        box.feed(1, 2, 3, 4, 5);
        String before = Boxes.counts(box);
        box.restart(0);
        Check.same("4: nothing else changes", Boxes.counts(box), before);
        box.peek(0);
        Check.same("4: the RUN is empty", Boxes.resultHex(box), EMPTY_256);
        Check.same("4: the TAPE comes to an empty RUN", box.more(0), 20);
        Check.same("4: other RUNS stay", box.more(1), 130);
        Check.same("4: other RUNS stay", box.more(2), 130);
        Check.same("4: BLOCKS stay", Boxes.counts(box), "0 0 32 3 1 1");
    }

    private static void promise5More() {
        for (int kind = 0; kind < 3; kind++) {
            DigestBox box = new DigestBox();
            ReferenceBox due = new ReferenceBox();
            int[] pieces = {0, 1, BLOCK[kind] - 1, BLOCK[kind], 3 * BLOCK[kind] + 5, BLOCK[kind] - 5, 0};
            for (int piece : pieces) {
                byte[] bytes = Boxes.sample(piece);
                Boxes.tape(box, bytes);
                due.tape(bytes);
                Check.same("5: more answers the RUN's length", box.more(kind), due.more(kind));
                Check.same("5: more leaves the TAPE empty", box.count(0), 0);
                Check.same("5: full BLOCKS are counted", box.count(3 + kind), due.count(3 + kind));
            }
            box.peek(kind);
            due.peek(kind);
            sameResult("5: pieces make one text, kind " + kind, box, due);
        }
    }

    private static void promise6Peek() {
        for (int kind = 0; kind < 3; kind++) {
            DigestBox box = new DigestBox();
            ReferenceBox due = new ReferenceBox();
            for (int piece : new int[] {0, 3, 52, 9, 48, 16, 127, 1}) {
                byte[] bytes = Boxes.sample(piece);
                Boxes.tape(box, bytes);
                due.tape(bytes);
                box.more(kind);
                due.more(kind);
                Check.same("6: peek answers the hash's length", box.peek(kind), HASH[kind]);
                due.peek(kind);
                Check.same("6: THE RESULT and BLOCKS, kind " + kind, Boxes.counts(box), due.counts());
                Check.same("6: the hash's last byte", box.result(HASH[kind] - 1), due.result(HASH[kind] - 1));
            }
            box.feed(1, 1, 1, 1, 1);
            box.peek(kind);
            Check.same("6: peek leaves the TAPE", box.count(0), 20);
            due.peek(kind);
            sameResult("6: the RUN goes on behind a peek, kind " + kind, box, due);
        }
    }

    private static void promise6BlocksOfPeek() {
        for (int kind = 0; kind < 3; kind++) {
            int lastOfOne = kind == 0 ? 55 : 111;
            blocksOfPeeks(kind, 0, 0, 1);
            blocksOfPeeks(kind, lastOfOne, 0, 1);
            blocksOfPeeks(kind, lastOfOne + 1, 0, 2);
            blocksOfPeeks(kind, BLOCK[kind] - 1, 0, 2);
            blocksOfPeeks(kind, BLOCK[kind], 1, 1);
            blocksOfPeeks(kind, BLOCK[kind] + lastOfOne + 1, 1, 2);
        }
    }

    private static void blocksOfPeeks(int kind, int length, int full, int padded) {
        DigestBox box = new DigestBox();
        Boxes.tape(box, Boxes.sample(length));
        box.more(kind);
        String what = "6: BLOCKS, kind " + kind + ", " + length + " bytes";
        Check.same(what + " after more", box.count(3 + kind), full);
        box.peek(kind);
        Check.same(what + " after peek", box.count(3 + kind), full + padded);
        box.peek(kind);
        Check.same(what + " after two peeks", box.count(3 + kind), full + 2 * padded);
        Check.same(what + ", other KINDS", box.count(3) + box.count(4) + box.count(5), full + 2 * padded);
    }

    private static void promise7Key() {
        DigestBox box = new DigestBox();
        Check.same("7: an empty key", box.key(), 0);
        Boxes.tape(box, Check.bytes("4a656665"));
        Check.same("7: key answers its length", box.key(), 4);
        Check.same("7: key leaves the TAPE empty", Boxes.counts(box), "0 4 0 0 0 0");
        Boxes.tape(box, "what do ya want for nothing?".getBytes());
        box.hmac(0);
        Check.same("7: THE KEY was the TAPE, and is no part of it later", Boxes.resultHex(box),
                "5bdcc146bf60754e6a042426089575c75a003f089d2739839dec58b964ec3843");
        Check.same("7: THE KEY stays", box.count(1), 4);
        Check.same("7: a key is replaced", box.key(), 0);
        Check.same("7: a key is replaced", box.count(1), 0);
    }

    private static void promise8Keep() {
        DigestBox box = new DigestBox();
        box.feed(1, 2, 3, 4, 5);
        box.key();
        Check.same("8: keep of an empty RESULT", box.keep(), 0);
        Check.same("8: keep of an empty RESULT", box.count(1), 0);
        ReferenceBox due = new ReferenceBox();
        for (int kind = 2; kind >= 0; kind--) {
            box.peek(kind);
            due.peek(kind);
            Check.same("8: keep answers its length", box.keep(), HASH[kind]);
            due.keep();
            Check.same("8: THE RESULT stays", box.count(2), HASH[kind]);
            box.feed(9, 9, 9, 9, 9);
            due.feed(9, 9, 9, 9, 9);
            Check.same("8: the TAPE stays", box.count(0), 20);
            box.peek(2 - kind);
            due.peek(2 - kind);
            box.hmac(kind);
            due.hmac(kind);
            sameResult("8: THE KEY is the RESULT as it was, kind " + kind, box, due);
        }
    }

    private static void promise9Hmac() {
        for (int kind = 0; kind < 3; kind++) {
            DigestBox box = Boxes.withKeyAndTape(Boxes.sample(20), Boxes.sample(33));
            ReferenceBox due = ReferenceBox.withKeyAndTape(Boxes.sample(20), Boxes.sample(33));
            Check.same("9: hmac answers its length", box.hmac(kind), HASH[kind]);
            due.hmac(kind);
            Check.same("9: hmac takes the TAPE; four BLOCKS", Boxes.counts(box), due.counts());
            sameResult("9: hmac, kind " + kind, box, due);
            box.hmac(kind);
            due.hmac(kind);
            sameResult("9: hmac of an empty TAPE, kind " + kind, box, due);
            Check.same("9: hmac leaves the RUNS", box.more(kind), 0);
        }
    }

    private static void promise9KeyLengths() {
        for (int kind = 0; kind < 3; kind++) {
            int block = BLOCK[kind];
            for (int length : new int[] {0, 1, block - 1, block, block + 1, 2 * block, 400}) {
                DigestBox box = Boxes.withKeyAndTape(Boxes.sample(length), Boxes.sample(block));
                ReferenceBox due = ReferenceBox.withKeyAndTape(Boxes.sample(length), Boxes.sample(block));
                box.hmac(kind);
                due.hmac(kind);
                String what = "9: hmac, kind " + kind + ", key of " + length;
                Check.same(what, Boxes.counts(box), due.counts());
                sameResult(what, box, due);
            }
        }
    }

    private static void promise9ShorterKeyAfterLonger() {
        DigestBox box = new DigestBox();
        ReferenceBox due = new ReferenceBox();
        for (int length : new int[] {400, 60, 3, 0}) {
            Boxes.key(box, Boxes.sample(length));
            due.tape(Boxes.sample(length));
            due.key();
            box.hmac(1);
            due.hmac(1);
            sameResult("9: nothing is left of a longer key, " + length, box, due);
        }
    }

    private static void promise10Expand() {
        for (int kind = 0; kind < 3; kind++) {
            int most = 255 * HASH[kind];
            for (int n : new int[] {1, HASH[kind] - 1, HASH[kind], HASH[kind] + 1, 3 * HASH[kind] + 2, most - 1, most}) {
                DigestBox box = Boxes.withKeyAndTape(Boxes.sample(HASH[kind]), Boxes.sample(17));
                ReferenceBox due = ReferenceBox.withKeyAndTape(Boxes.sample(HASH[kind]), Boxes.sample(17));
                Check.same("10: expand answers n", box.expand(kind, n), n);
                due.expand(kind, n);
                String what = "10: expand(" + kind + ", " + n + ")";
                Check.same(what, Boxes.counts(box), due.counts());
                sameEnds(what, box, due, n);
            }
            DigestBox box = Boxes.withKeyAndTape(Boxes.sample(5), Boxes.sample(17));
            for (int n : new int[] {0, -1, most + 1, Integer.MIN_VALUE, Integer.MAX_VALUE}) {
                int of = kind;
                Check.throwing("10: expand(" + kind + ", " + n + ")", IllegalArgumentException.class,
                        () -> box.expand(of, n));
            }
            Check.same("10: what throws changes nothing", Boxes.counts(box), "17 5 0 0 0 0");
        }
    }

    private static void promise10LongKeyIsCountedForEachHmac() {
        // A key of 400 bytes: 7 or 4 blocks to hash it; an HMAC of a short text: 4 more.
        int[] perHmac = {7 + 4, 4 + 4, 4 + 4};
        for (int kind = 0; kind < 3; kind++) {
            DigestBox box = Boxes.withKeyAndTape(Boxes.sample(400), new byte[0]);
            box.expand(kind, 5 * HASH[kind]);
            Check.same("10: BLOCKS with a long key, kind " + kind, box.count(3 + kind), 5 * perHmac[kind]);
            box.hmac(kind);
            Check.same("10: BLOCKS of an HMAC after it, kind " + kind, box.count(3 + kind), 6 * perHmac[kind]);
        }
        DigestBox empty = new DigestBox();
        ReferenceBox due = new ReferenceBox();
        empty.expand(0, 70);
        due.expand(0, 70);
        sameResult("10: an empty key", empty, due);
    }

    private static void promise11ExpandLabel() {
        int[][] nKContext = {{16, 7, 0}, {1, 1, 0}, {48, 12, 127}, {70, 249, 255}, {300, 1, 255}, {8160, 249, 0}};
        for (int kind = 0; kind < 3; kind++) {
            for (int[] c : nKContext) {
                byte[] tape = Boxes.sample(c[1] + c[2]);
                DigestBox box = Boxes.withKeyAndTape(Boxes.sample(32), tape);
                ReferenceBox due = ReferenceBox.withKeyAndTape(Boxes.sample(32), tape);
                String what = "11: expandLabel" + Arrays.toString(c) + ", kind " + kind;
                Check.same(what, box.expandLabel(kind, c[0], c[1]), c[0]);
                due.expandLabel(kind, c[0], c[1]);
                Check.same(what, Boxes.counts(box), due.counts());
                sameEnds(what, box, due, c[0]);
            }
        }
    }

    private static void promise11OneLabelAfterAnother() {
        DigestBox box = Boxes.withKeyAndTape(Boxes.sample(32), new byte[0]);
        ReferenceBox due = ReferenceBox.withKeyAndTape(Boxes.sample(32), new byte[0]);
        for (int length : new int[] {200, 9, 30}) {
            Boxes.tape(box, Boxes.sample(length));
            due.tape(Boxes.sample(length));
            box.expandLabel(2, 33, 8);
            due.expandLabel(2, 33, 8);
            sameResult("11: nothing is left of an earlier label, " + length, box, due);
        }
    }

    private static void promise11Limits() {
        for (int kind = 0; kind < 3; kind++) {
            int most = 255 * HASH[kind];
            refusedLabel(10, kind, 0, 5);
            refusedLabel(10, kind, -1, 5);
            refusedLabel(10, kind, most + 1, 5);
            refusedLabel(10, kind, Integer.MAX_VALUE, 5);
            refusedLabel(10, kind, Integer.MIN_VALUE, 5);
            refusedLabel(10, kind, 16, 0);
            refusedLabel(10, kind, 16, -1);
            refusedLabel(10, kind, 16, 11);
            refusedLabel(10, kind, 16, Integer.MAX_VALUE);
            refusedLabel(10, kind, 16, Integer.MIN_VALUE);
            refusedLabel(0, kind, 16, 0);
            refusedLabel(0, kind, 16, 1);
            refusedLabel(300, kind, 16, 250);
            refusedLabel(250, kind, 16, 250);
            refusedLabel(257, kind, 16, 1);
            refusedLabel(505, kind, 16, 249);
            DigestBox box = Boxes.withKeyAndTape(Boxes.sample(3), Boxes.sample(10));
            Check.same("11: the greatest n", box.expandLabel(kind, most, 10), most);
        }
    }

    private static void refusedLabel(int tape, int kind, int n, int k) {
        DigestBox box = Boxes.withKeyAndTape(Boxes.sample(3), Boxes.sample(tape));
        String what = "11: expandLabel(" + kind + ", " + n + ", " + k + ") with a TAPE of " + tape;
        Check.throwing(what, IllegalArgumentException.class, () -> box.expandLabel(kind, n, k));
        Check.same(what + " changes nothing", Boxes.counts(box), tape + " 3 0 0 0 0");
    }

    private static void promise12Result() {
        DigestBox box = new DigestBox();
        Check.throwing("12: an empty RESULT", IndexOutOfBoundsException.class, () -> box.result(0));
        box.peek(0);
        Check.same("12: the first byte, above 127", box.result(0), 0xe3);
        Check.same("12: the last byte", box.result(31), 0x55);
        for (int i : new int[] {-1, 32, Integer.MIN_VALUE, Integer.MAX_VALUE}) {
            Check.throwing("12: result(" + i + ")", IndexOutOfBoundsException.class, () -> box.result(i));
        }
        Check.same("12: THE RESULT stays", Boxes.resultHex(box), EMPTY_256);
        box.expand(0, 100);
        box.expand(0, 5);
        Check.throwing("12: a shorter RESULT has no more", IndexOutOfBoundsException.class, () -> box.result(5));
        box.peek(2);
        Check.same("12: a longer RESULT", Check.outcome(() -> box.result(63)), "62");
    }

    private static void promise13Count() {
        DigestBox box = Boxes.withKeyAndTape(Boxes.sample(7), Boxes.sample(200));
        box.more(0);
        Boxes.tape(box, Boxes.sample(260));
        box.more(1);
        Boxes.tape(box, Boxes.sample(600));
        box.more(2);
        box.peek(1);
        Boxes.tape(box, Boxes.sample(11));
        Check.same("13: all counts", Boxes.counts(box), "11 7 48 3 3 4");
        for (int what : new int[] {-1, 6, Integer.MIN_VALUE, Integer.MAX_VALUE}) {
            Check.same("13: count(" + what + ")", box.count(what), -1);
        }
        Check.same("13: count changes nothing", Boxes.counts(box), "11 7 48 3 3 4");
    }

    private static void wrongKinds() {
        DigestBox box = Boxes.withKeyAndTape(Boxes.sample(6), Boxes.sample(300));
        box.more(0);
        box.peek(0);
        Boxes.tape(box, Boxes.sample(30));
        String before = Boxes.counts(box) + Boxes.resultHex(box);
        for (int kind : WRONG_KINDS) {
            Class<NoSuchElementException> due = NoSuchElementException.class;
            Check.throwing("4: restart(" + kind + ")", due, () -> {
                box.restart(kind);
                return 0;
            });
            Check.throwing("5: more(" + kind + ")", due, () -> box.more(kind));
            Check.throwing("6: peek(" + kind + ")", due, () -> box.peek(kind));
            Check.throwing("9: hmac(" + kind + ")", due, () -> box.hmac(kind));
            Check.throwing("10: expand(" + kind + ", 5)", due, () -> box.expand(kind, 5));
            Check.throwing("11: expandLabel(" + kind + ", 5, 5)", due, () -> box.expandLabel(kind, 5, 5));
        }
        Check.same("4 to 11: what throws changes nothing", Boxes.counts(box) + Boxes.resultHex(box), before);
        Check.same("4 to 11: what throws leaves the RUN", box.more(0), 330);
    }

    /** All 16,320 bytes of the longest RESULT, 400 from an object, as no object is promised for more calls. */
    private static void wholeLongResult() {
        ReferenceBox due = ReferenceBox.withKeyAndTape(Boxes.sample(64), Boxes.sample(9));
        due.expand(2, 16320);
        for (int first = 0; first < 16320; first += 400) {
            DigestBox box = Boxes.withKeyAndTape(Boxes.sample(64), Boxes.sample(9));
            box.expand(2, 16320);
            for (int i = first; i < Math.min(first + 400, 16320); i++) {
                Check.same("10: byte " + i + " of the longest RESULT", box.result(i), due.result(i));
            }
        }
    }

    private static void sameResult(String what, DigestBox box, ReferenceBox due) {
        Check.same(what + ", length", box.count(2), due.count(2));
        for (int i = 0; i < due.count(2); i++) {
            int of = i;
            Check.same(what + ", byte " + i, Check.outcome(() -> box.result(of)), String.valueOf(due.result(i)));
        }
    }

    /** The first and last bytes of a long RESULT, and none behind them. */
    private static void sameEnds(String what, DigestBox box, ReferenceBox due, int n) {
        for (int i = 0; i < n; i++) {
            if (i < 70 || i >= n - 130) {
                int of = i;
                Check.same(what + ", byte " + i, Check.outcome(() -> box.result(of)), String.valueOf(due.result(i)));
            }
        }
        Check.throwing(what + ", byte " + n, IndexOutOfBoundsException.class, () -> box.result(n));
    }
}
