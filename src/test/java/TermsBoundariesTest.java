import java.util.NoSuchElementException;

/** The boundary cases that "What it is", "Terms" and promise 1 name, but for BLOCKS: a test for each sentence. */
public final class TermsBoundariesTest {
    private static final int[] HASH = {32, 48, 64};
    private static final int[] WRONG_KINDS = {-1, 3, Integer.MIN_VALUE, Integer.MAX_VALUE};

    private interface BoxCall {
        long on(DigestBox box);
    }

    public static void main(String[] args) {
        Check.test("at most 512 calls: any call may be the 512th", TermsBoundariesTest::anyCallMayBeTheLast);
        Check.test("at most 512 calls: the same call each time", TermsBoundariesTest::sameCallEachTime);
        Check.test("the TAPE is empty at first", TermsBoundariesTest::tapeIsEmptyAtFirst);
        Check.test("each RUN is empty at first", TermsBoundariesTest::runsAreEmptyAtFirst);
        Check.test("THE KEY is empty at first", TermsBoundariesTest::keyIsEmptyAtFirst);
        Check.test("THE RESULT is empty at first", TermsBoundariesTest::resultIsEmptyAtFirst);
        Check.test("BLOCKS are none at first", TermsBoundariesTest::blocksAreNoneAtFirst);
        Check.test("a call that takes the TAPE leaves it empty", TermsBoundariesTest::takingLeavesTapeEmpty);
        Check.test("nothing of a taken TAPE comes back", TermsBoundariesTest::takenTapeDoesNotComeBack);
        Check.test("a call that throws leaves the TAPE", TermsBoundariesTest::throwingLeavesTape);
        Check.test("other calls leave the TAPE", TermsBoundariesTest::otherCallsLeaveTape);
        Check.test("KINDS have 32, 48, 64 bytes of hash", TermsBoundariesTest::bytesOfHash);
        Check.test("each KIND has a RUN of its own", TermsBoundariesTest::runsAreSeparate);
        Check.test("what throws changes nothing in a new object", TermsBoundariesTest::newObjectIsUnchanged);
        Check.test("what throws changes nothing in a used object", TermsBoundariesTest::usedObjectIsUnchanged);
        Check.test("of two exceptions the first is thrown by expand", TermsBoundariesTest::firstOfTwoInExpand);
        Check.test("of two exceptions the first is thrown by expandLabel", TermsBoundariesTest::firstOfTwoInLabel);
        Check.end();
    }

    private static void anyCallMayBeTheLast() {
        Check.same("feed", after511Feeds().feed(1, 2, 3, 4, 5), 10240);
        Check.same("end", after511Feeds().end(10220), 10220);
        Check.same("key", after511Feeds().key(), 10220);
        Check.same("keep", after511Feeds().keep(), 0);
        Check.same("count", after511Feeds().count(0), 10220);
        Check.throwing("result", IndexOutOfBoundsException.class, () -> after511Feeds().result(0));
        for (int kind = 0; kind < 3; kind++) {
            int of = kind;
            Check.same("restart", Check.outcome(() -> Boxes.restart(after511Feeds(), of)), "0");
            Check.same("more", after511Feeds().more(kind), 10220);
            Check.same("peek", after511Feeds().peek(kind), HASH[kind]);
            Check.same("hmac", after511Feeds().hmac(kind), HASH[kind]);
            Check.same("expand", after511Feeds().expand(kind, 255 * HASH[kind]), 255 * HASH[kind]);
            Check.throwing("expandLabel", IllegalArgumentException.class,
                    () -> after511Feeds().expandLabel(of, 1, 1));
        }
    }

    private static DigestBox after511Feeds() {
        DigestBox box = new DigestBox();
        for (int i = 1; i <= 511; i++) {
            Check.same("feed " + i, box.feed(i, i, i, i, i), 20 * i);
        }
        return box;
    }

    private static void sameCallEachTime() {
        for (int kind = 0; kind < 3; kind++) {
            int of = kind;
            DigestBox peeked = new DigestBox();
            times511(() -> peeked.peek(of), HASH[kind]);
            Check.same("BLOCKS of 511 peeks", peeked.count(3 + kind), 511);
            DigestBox mac = new DigestBox();
            times511(() -> mac.hmac(of), HASH[kind]);
            Check.same("BLOCKS of 511 hmacs", mac.count(3 + kind), 511 * 4);
            DigestBox expanded = new DigestBox();
            times511(() -> expanded.expand(of, 255 * HASH[of]), 255 * HASH[kind]);
            Check.same("BLOCKS of 511 longest expansions", expanded.count(3 + kind), 511 * 255 * 4);
            DigestBox restarted = new DigestBox();
            times511(() -> Boxes.restart(restarted, of), 0);
            Check.same("BLOCKS of 511 restarts", restarted.count(3 + kind), 0);
            DigestBox run = new DigestBox();
            times511(() -> run.more(of), 0);
            Check.same("BLOCKS of 511 empty pieces", run.count(3 + kind), 0);
        }
    }

    private static void times511(Check.Call call, long due) {
        for (int i = 1; i <= 511; i++) {
            Check.same("call " + i, Check.outcome(call), String.valueOf(due));
        }
    }

    private static void tapeIsEmptyAtFirst() {
        DigestBox box = new DigestBox();
        Check.same("its length", box.count(0), 0);
        Check.throwing("end(1)", IllegalArgumentException.class, () -> box.end(1));
        Check.same("end(0)", box.end(0), 0);
        Check.same("the first feed", box.feed(0, 0, 0, 0, 0), 20);
    }

    private static void runsAreEmptyAtFirst() {
        String[] emptyHash = {"e3b0c44298fc1c14", "38b060a751ac9638", "cf83e1357eefb8bd"};
        for (int kind = 0; kind < 3; kind++) {
            DigestBox box = new DigestBox();
            box.peek(kind);
            Check.same("hash, kind " + kind, Boxes.resultHex(box, 0, 8), emptyHash[kind]);
            Check.same("length, kind " + kind, box.more(kind), 0);
        }
    }

    private static void keyIsEmptyAtFirst() {
        String[] emptyMac = {"b613679a0814d9ec", "6c1f2ee938fad2e2", "b936cee86c9f87aa"};
        for (int kind = 0; kind < 3; kind++) {
            DigestBox box = new DigestBox();
            Check.same("its length", box.count(1), 0);
            box.hmac(kind);
            Check.same("HMAC of nothing with no key, kind " + kind, Boxes.resultHex(box, 0, 8), emptyMac[kind]);
        }
    }

    private static void resultIsEmptyAtFirst() {
        DigestBox box = new DigestBox();
        Check.same("its length", box.count(2), 0);
        Check.throwing("result(0)", IndexOutOfBoundsException.class, () -> box.result(0));
        Check.same("keep", box.keep(), 0);
    }

    private static void blocksAreNoneAtFirst() {
        DigestBox used = usedBox();
        Check.same("another object has some", String.valueOf(used.count(3) > 0), "true");
        DigestBox box = new DigestBox();
        Check.same("a new one", Boxes.counts(box), "0 0 0 0 0 0");
    }

    private static void takingLeavesTapeEmpty() {
        for (int kind = 0; kind < 3; kind++) {
            int of = kind;
            tapeAfter("more", 0, box -> box.more(of));
            tapeAfter("key", 0, DigestBox::key);
            tapeAfter("hmac", 0, box -> box.hmac(of));
            tapeAfter("expand", 0, box -> box.expand(of, 100));
            tapeAfter("expandLabel", 0, box -> box.expandLabel(of, 100, 20));
        }
    }

    /** A call on a box with a TAPE of 90 bytes, and how many are left of them. */
    private static void tapeAfter(String name, int due, BoxCall call) {
        DigestBox box = Boxes.withKeyAndTape(Boxes.sample(10), Boxes.sample(90));
        Check.outcome(() -> call.on(box));
        Check.same("the TAPE's length after " + name, box.count(0), due);
        Check.throwing("end of more after " + name, IllegalArgumentException.class, () -> box.end(due + 1));
        Check.same("the next feed after " + name, box.feed(1, 2, 3, 4, 5), due + 20);
    }

    private static void takenTapeDoesNotComeBack() {
        BoxCall[] takers = {
            box -> box.more(2), DigestBox::key, box -> box.hmac(2), box -> box.expand(2, 100),
            box -> box.expandLabel(2, 100, 20)
        };
        DigestBox fresh = new DigestBox();
        Boxes.tape(fresh, Boxes.sample(30));
        fresh.more(0);
        fresh.peek(0);
        String due = Boxes.resultHex(fresh);
        for (BoxCall taker : takers) {
            DigestBox box = Boxes.withKeyAndTape(Boxes.sample(10), Boxes.sample(90));
            taker.on(box);
            Boxes.tape(box, Boxes.sample(30));
            box.more(0);
            box.peek(0);
            Check.same("hash of the 30 bytes that came next", Boxes.resultHex(box), due);
        }
    }

    private static void throwingLeavesTape() {
        tapeAfter("more(3)", 90, box -> box.more(3));
        tapeAfter("hmac(3)", 90, box -> box.hmac(3));
        tapeAfter("expand(3, 1)", 90, box -> box.expand(3, 1));
        tapeAfter("expandLabel(3, 1, 1)", 90, box -> box.expandLabel(3, 1, 1));
        for (int kind = 0; kind < 3; kind++) {
            int of = kind;
            tapeAfter("expand, n = 0", 90, box -> box.expand(of, 0));
            tapeAfter("expand, n too large", 90, box -> box.expand(of, 255 * HASH[of] + 1));
            tapeAfter("expandLabel, n = 0", 90, box -> box.expandLabel(of, 0, 1));
            tapeAfter("expandLabel, n too large", 90, box -> box.expandLabel(of, 255 * HASH[of] + 1, 1));
            tapeAfter("expandLabel, k = 0", 90, box -> box.expandLabel(of, 1, 0));
            tapeAfter("expandLabel, k = 91", 90, box -> box.expandLabel(of, 1, 91));
        }
    }

    private static void otherCallsLeaveTape() {
        tapeAfter("keep", 90, DigestBox::keep);
        tapeAfter("result", 90, box -> box.result(0));
        tapeAfter("count", 90, box -> box.count(0));
        for (int kind = 0; kind < 3; kind++) {
            int of = kind;
            tapeAfter("restart", 90, box -> Boxes.restart(box, of));
            tapeAfter("peek", 90, box -> box.peek(of));
        }
    }

    private static void bytesOfHash() {
        for (int kind = 0; kind < 3; kind++) {
            DigestBox box = new DigestBox();
            Check.same("peek, kind " + kind, box.peek(kind), HASH[kind]);
            Check.same("its RESULT, kind " + kind, box.count(2), HASH[kind]);
            DigestBox mac = new DigestBox();
            Check.same("hmac, kind " + kind, mac.hmac(kind), HASH[kind]);
            Check.same("its RESULT, kind " + kind, mac.count(2), HASH[kind]);
        }
    }

    private static void runsAreSeparate() {
        DigestBox box = new DigestBox();
        ReferenceBox due = new ReferenceBox();
        for (int kind = 0; kind < 3; kind++) {
            Boxes.tape(box, Boxes.sample(200 + kind));
            due.tape(Boxes.sample(200 + kind));
            Check.same("length, kind " + kind, box.more(kind), 200 + kind);
            due.more(kind);
        }
        for (int kind = 2; kind >= 0; kind--) {
            box.peek(kind);
            due.peek(kind);
            Check.same("hash, kind " + kind, Boxes.resultHex(box), due.resultHex(0, HASH[kind]));
        }
    }

    private static void newObjectIsUnchanged() {
        for (BoxCall refused : refusedByAny()) {
            DigestBox box = new DigestBox();
            refuse(box, refused);
            Check.same("all of it", Boxes.everything(box), Boxes.everything(new DigestBox()));
        }
    }

    private static void usedObjectIsUnchanged() {
        for (BoxCall refused : refusedByAny()) {
            DigestBox box = usedBox();
            refuse(box, refused);
            Check.same("all of it", Boxes.everything(box), Boxes.everything(usedBox()));
        }
    }

    private static void refuse(DigestBox box, BoxCall refused) {
        String outcome = Check.outcome(() -> refused.on(box));
        Check.same("the call is refused", String.valueOf(outcome.startsWith("throws")), "true");
    }

    /** A TAPE of 70, a KEY of 140 (longer than a block), a RESULT of 70, and RUNS that end within a block. */
    private static DigestBox usedBox() {
        DigestBox box = Boxes.withKeyAndTape(Boxes.sample(140), Boxes.sample(9));
        box.expand(1, 70);
        for (int kind = 0; kind < 3; kind++) {
            Boxes.tape(box, Boxes.sample(150 + kind));
            box.more(kind);
        }
        Boxes.tape(box, Boxes.sample(70));
        return box;
    }

    /** Calls that a box with a TAPE of at most 70 and a RESULT of at most 70 bytes must refuse. */
    private static BoxCall[] refusedByAny() {
        return new BoxCall[] {
            box -> box.end(-1), box -> box.end(71), box -> box.end(Integer.MAX_VALUE),
            box -> Boxes.restart(box, -1), box -> Boxes.restart(box, 3),
            box -> box.more(-1), box -> box.more(3),
            box -> box.peek(-1), box -> box.peek(3),
            box -> box.hmac(-1), box -> box.hmac(3),
            box -> box.expand(-1, 5), box -> box.expand(3, 5),
            box -> box.expand(0, 0), box -> box.expand(0, 8161),
            box -> box.expand(1, 0), box -> box.expand(1, 12241),
            box -> box.expand(2, 0), box -> box.expand(2, 16321),
            box -> box.expandLabel(-1, 5, 5), box -> box.expandLabel(3, 5, 5),
            box -> box.expandLabel(0, 0, 5), box -> box.expandLabel(0, 8161, 5),
            box -> box.expandLabel(1, 0, 5), box -> box.expandLabel(1, 12241, 5),
            box -> box.expandLabel(2, 0, 5), box -> box.expandLabel(2, 16321, 5),
            box -> box.expandLabel(0, 5, 0), box -> box.expandLabel(1, 5, 71), box -> box.expandLabel(2, 5, 250),
            box -> box.result(-1), box -> box.result(70), box -> box.result(Integer.MAX_VALUE)
        };
    }

    private static void firstOfTwoInExpand() {
        DigestBox box = new DigestBox();
        for (int kind : WRONG_KINDS) {
            for (int n : new int[] {0, -1, 16321, Integer.MIN_VALUE, Integer.MAX_VALUE}) {
                Check.throwing("expand(" + kind + ", " + n + ")", NoSuchElementException.class,
                        () -> box.expand(kind, n));
            }
        }
    }

    private static void firstOfTwoInLabel() {
        for (int length : new int[] {0, 10, 300}) {
            DigestBox box = Boxes.withKeyAndTape(new byte[0], Boxes.sample(length));
            for (int kind : WRONG_KINDS) {
                for (int n : new int[] {0, 5, 16321, Integer.MAX_VALUE}) {
                    for (int k : new int[] {0, 1, 250, 301, Integer.MIN_VALUE}) {
                        String what = "expandLabel(" + kind + ", " + n + ", " + k + "), a TAPE of " + length;
                        Check.throwing(what, NoSuchElementException.class, () -> box.expandLabel(kind, n, k));
                    }
                }
            }
        }
    }
}
